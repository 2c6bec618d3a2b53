import java.lang.reflect.Method;
import java.util.ArrayList;
import java.util.Arrays;
import java.util.List;

/** A call that is refused without a GARRISON, with the bounds of its arguments; called by its name. */
final class Asked {
    /**
     * Promise, method, refusal, a sign for each argument: m MAN, h HOUR, c HOUR of 0 .. 8, 2 and 4 so many choices, n PACKETS
     * shared, l LAW, s SLOT, p PACKETS of an act, S seed, L sieges, N needs, k IMAGE, o another MAN.
     */
    private static final String[] TOLD = {
        "6 man -2 m4", "7 rain -2 h", "8 heat -2 h", "9 frosts -2", "10 stiff -2 mh", "11 loses -2 mh", "12 stands -2 h",
        "13 gives -2 m", "14 hours -2 m", "15 cracks -2 m", "16 broken -2", "17 gap -2 h", "18 holds -2", "19 falls -2",
        "20 weakest -2 h", "21 all -2 h", "22 spare -1000 mh", "23 stiffest -2 h", "24 sags -2 h", "25 spell -2", "26 rises -2 m",
        "27 lost -2 m", "28 dry -2", "29 drummer -2", "30 bears -2 m", "31 boil -2 m", "32 gain -1000 mh", "33 helps -2 h",
        "34 stock -2 h", "35 eaten -2", "36 empty -2", "37 wants -2 mh", "38 hold -2 n", "39 share -2 nm", "40 shares -2 n",
        "41 fewest -2 h", "42 ordered -2", "43 order -2 m", "44 change -2", "45 irons -2 m", "46 ironed -2 m", "47 stiffs -2 sm",
        "48 least -2 sm", "49 most -2 sm", "50 ask -2 sm", "51 soon -2 sm", "52 late -2 sm", "53 laws -2 s", "54 by -2 l",
        "55 law -2", "56 rests -2 mo", "57 gets -1000 mo22", "58 chance -2 mc2", "59 line -2 c2", "60 mean -2 mc2",
        "61 starch -2 mhp", "62 iron -2 mh", "63 undo -2", "64 anew -2", "65 drawn -2 S2", "66 luck -2 SLm", "67 rate -2 mN"};

    final int promise;
    final long refusal;
    final String kinds;
    private final Method method;

    private Asked(String told) {
        String[] parts = told.split(" ");
        promise = Integer.parseInt(parts[0]);
        refusal = Long.parseLong(parts[2]);
        kinds = parts.length > 3 ? parts[3] : "";
        Class<?>[] types = new Class<?>[kinds.length()];
        Arrays.fill(types, int.class);
        try {
            method = StarchGarrison.class.getMethod(parts[1], types);
        } catch (NoSuchMethodException missing) {
            throw new IllegalStateException(missing);
        }
    }

    static List<Asked> all() {
        List<Asked> all = new ArrayList<>();
        for (String told : TOLD) {
            all.add(new Asked(told));
        }
        return all;
    }

    /** Whether it leaves all as it is, even if it is not refused. */
    boolean onlyAsks() {
        return promise < 61 || promise > 64 && promise != 67;
    }

    String name(int[] values) {
        return method.getName() + Arrays.toString(values);
    }

    long answer(StarchGarrison x, int[] values) {
        Object[] boxed = new Object[values.length];
        for (int i = 0; i < values.length; i++) {
            boxed[i] = values[i];
        }
        try {
            return ((Number) method.invoke(x, boxed)).longValue();
        } catch (ReflectiveOperationException thrown) {
            throw new IllegalStateException(name(values), thrown);
        }
    }

    static int least(char kind) {
        return "pLN".indexOf(kind) >= 0 ? 1 : 0;
    }

    static int greatest(char kind, int men, int hours) {
        switch (kind) {
            case 'm':
            case 'o':
                return men - 1;
            case 'h':
                return hours - 1;
            case 'c':
                return Math.min(8, hours - 1);
            case '2':
                return 1;
            case '4':
            case 'l':
            case 's':
                return 3;
            case 'n':
                return 6;
            case 'p':
                return 9;
            case 'S':
                return 2000000000;
            case 'L':
                return 20;
            case 'N':
                return 60;
            default:
                throw new IllegalStateException("" + kind);
        }
    }

    /** All arguments at their least, another MAN being the next one. */
    int[] plain() {
        int[] values = new int[kinds.length()];
        for (int i = 0; i < values.length; i++) {
            values[i] = kinds.charAt(i) == 'o' ? 1 : least(kinds.charAt(i));
        }
        return values;
    }

    /** All arguments at their greatest, another MAN being the one ahead of the last. */
    int[] greatest(int men, int hours) {
        int[] values = new int[kinds.length()];
        for (int i = 0; i < values.length; i++) {
            int high = greatest(kinds.charAt(i), men, hours);
            values[i] = kinds.charAt(i) == 'o' ? high - 1 : high;
        }
        return values;
    }
}
