import java.lang.reflect.Method;
import java.util.ArrayList;
import java.util.List;
import java.util.function.Supplier;

/**
 * Every argument that the document bounds: its least and its greatest are not refused, the numbers just outside them
 * are, by the promise's own answer, and a refused call leaves all as it was.
 */
public final class BoundsTest {
    /**
     * Promise, method, refusal, a sign for each argument: m MAN, h HOUR, c HOUR of 0 .. 8, 2 and 4 so many choices, n PACKETS
     * shared, l LAW, s SLOT, p PACKETS of an act, S seed, L sieges, N needs, k IMAGE, o another MAN.
     */
    private static final String[] ASKED = {
        "6 man -2 m4", "7 rain -2 h", "8 heat -2 h", "9 frosts -2", "10 stiff -2 mh", "11 loses -2 mh", "12 stands -2 h",
        "13 gives -2 m", "14 hours -2 m", "15 cracks -2 m", "16 broken -2", "17 gap -2 h", "18 holds -2", "19 falls -2",
        "20 weakest -2 h", "21 all -2 h", "22 spare -1000 mh", "23 stiffest -2 h", "24 sags -2 h", "25 spell -2", "26 rises -2 m",
        "27 lost -2 m", "28 dry -2", "29 drummer -2", "30 bears -2 m", "31 boil -2 m", "32 gain -1000 mh", "33 helps -2 h",
        "34 stock -2 h", "35 eaten -2", "36 empty -2", "37 wants -2 mh", "38 hold -2 n", "39 share -2 nm", "40 shares -2 n",
        "41 fewest -2 h", "42 ordered -2", "43 order -2 m", "44 change -2", "45 irons -2 m", "46 ironed -2 m", "47 stiffs -2 sm",
        "48 least -2 sm", "49 most -2 sm", "50 ask -2 sm", "51 soon -2 sm", "52 late -2 sm", "53 laws -2 s", "54 by -2 l",
        "55 law -2", "56 rests -2 mo", "57 gets -1000 mo22", "58 chance -2 mc2", "59 line -2 c2", "60 mean -2 mc2",
        "61 starch -2 mhp", "62 iron -2 mh", "63 undo -2", "64 anew -2", "65 drawn -2 S2", "66 luck -2 SLm", "67 rate -2 mN"};
    private static final Edges edges = new Edges();

    private final int promise;
    private final long refusal;
    private final String kinds;
    private final Method method;

    private BoundsTest(String asked) throws Exception {
        String[] parts = asked.split(" ");
        promise = Integer.parseInt(parts[0]);
        refusal = Long.parseLong(parts[2]);
        kinds = parts.length > 3 ? parts[3] : "";
        Class<?>[] types = new Class<?>[kinds.length()];
        java.util.Arrays.fill(types, int.class);
        method = StarchGarrison.class.getMethod(parts[1], types);
    }

    public static void main(String[] args) throws Exception {
        for (String asked : ASKED) {
            BoundsTest test = new BoundsTest(asked);
            test.withoutGarrison();
            test.withoutMen();
            test.of(1, 1);
            test.of(3, 8);
            test.of(6, 24);
            test.refusalsLeaveAll();
        }
        imagesAndSlots();
        edges.finish("BoundsTest", 6, 67);
    }

    private static String name(Method method, int[] values) {
        return method.getName() + java.util.Arrays.toString(values);
    }

    private long answer(StarchGarrison x, int[] values) {
        Object[] boxed = new Object[values.length];
        for (int i = 0; i < values.length; i++) {
            boxed[i] = values[i];
        }
        try {
            return ((Number) method.invoke(x, boxed)).longValue();
        } catch (ReflectiveOperationException thrown) {
            throw new IllegalStateException(name(method, values), thrown);
        }
    }

    private static int least(char kind) {
        return "pLN".indexOf(kind) >= 0 ? 1 : 0;
    }

    private static int greatest(char kind, int men, int hours) {
        switch (kind) {
            case 'm':
            case 'o':
                return men - 1;
            case 'h':
                return hours - 1;
            case 'c':
                return Math.min(8, hours - 1);
            case '2':
                return 1;
            case '4':
            case 'l':
            case 's':
                return 3;
            case 'n':
                return 6;
            case 'p':
                return 9;
            case 'S':
                return 2000000000;
            case 'L':
                return 20;
            case 'N':
                return 60;
            default:
                throw new IllegalStateException("" + kind);
        }
    }

    /** All arguments at their least, another MAN being the next one. */
    private int[] plain() {
        int[] values = new int[kinds.length()];
        for (int i = 0; i < values.length; i++) {
            values[i] = kinds.charAt(i) == 'o' ? 1 : least(kinds.charAt(i));
        }
        return values;
    }

    private static StarchGarrison withRows(StarchGarrison x) {
        for (int slot = 0; slot < 4; slot++) {
            x.row(slot, slot, 0);
        }
        return x;
    }

    private static StarchGarrison garrison(int men, int hours) {
        String[] lines = Edges.six(hours).split("(?<=;)");
        StringBuilder text = new StringBuilder();
        for (int i = 0; i < lines.length; i++) {
            text.append(i >= 1 + men && i < 7 ? "" : lines[i]);
        }
        return withRows(Checks.told(text.toString()));
    }

    private void withoutGarrison() {
        edges.due(promise, "no GARRISON " + name(method, plain()), answer(withRows(new StarchGarrison()), plain()), refusal);
        StarchGarrison emptied = garrison(3, 8);
        emptied.iron(0, 0);
        emptied.garrison();
        edges.due(promise, "no GARRISON any more " + name(method, plain()), answer(emptied, plain()), refusal);
    }

    private void withoutMen() {
        long got = answer(garrison(0, 8), plain());
        boolean asksForOne = kinds.indexOf('m') >= 0;
        edges.due(promise, "no MEN " + name(method, plain()) + " is refused", got == refusal ? 1 : 0, asksForOne ? 1 : 0);
    }

    private static int[] outside(char kind, int low, int high) {
        int[] other = {low - 1, high + 1, Integer.MIN_VALUE, Integer.MAX_VALUE, low - 256, high + 32, high + 64, high + 256,
            low + Integer.MIN_VALUE};
        List<Integer> outside = new ArrayList<>();
        for (int value : other) {
            if (value < low || value > high) {
                outside.add(value);
            }
        }
        return outside.stream().mapToInt(Integer::intValue).toArray();
    }

    private void of(int men, int hours) {
        if (kinds.indexOf('o') >= 0 && men < 2) {
            edges.due(promise, "one MAN alone " + name(method, plain()), answer(garrison(men, hours), plain()), refusal);
            return;
        }
        for (int i = 0; i < kinds.length(); i++) {
            char kind = kinds.charAt(i);
            int low = kind == 'o' ? 1 : least(kind);
            int high = greatest(kind, men, hours);
            int[] values = plain();
            for (int value : new int[] {low, high}) {
                values[i] = value;
                boolean twice = kinds.startsWith("mo") && values[0] == values[1];
                if (!twice) {
                    long got = answer(garrison(men, hours), values);
                    edges.due(promise, men + " MEN " + hours + " HOURS " + name(method, values) + " is refused", got == refusal ? 1 : 0, 0);
                }
            }
            int lowest = kind == 'o' ? 0 : low;
            for (int value : outside(kind, lowest, high)) {
                values[i] = value;
                edges.due(promise, men + " MEN " + hours + " HOURS " + name(method, values), answer(garrison(men, hours), values), refusal);
            }
        }
        if (kinds.isEmpty()) {
            edges.due(promise, method.getName() + " is refused", answer(garrison(men, hours), plain()) == refusal ? 1 : 0, 0);
        }
    }

    private void refusalsLeaveAll() {
        Supplier<StarchGarrison> maker = Edges::full;
        for (int i = 0; i < kinds.length(); i++) {
            char kind = kinds.charAt(i);
            int[] below = plain();
            below[i] = least(kind) - 1;
            edges.refused(promise, name(method, below), maker, x -> answer(x, below), refusal);
            int[] above = plain();
            above[i] = greatest(kind, 3, 6) + 1;
            edges.refused(promise, name(method, above), maker, x -> answer(x, above), refusal);
        }
    }

    private static void imagesAndSlots() {
        for (int k : new int[] {-1, 3, Integer.MIN_VALUE, Integer.MAX_VALUE, 32}) {
            edges.refused(69, "image(" + k + ")", Edges::full, x -> x.image(k), -2);
            edges.refused(70, "back(" + k + ")", Edges::full, x -> x.back(k), -2);
        }
        for (int slot : new int[] {-1, 4, Integer.MIN_VALUE, Integer.MAX_VALUE, 32}) {
            edges.refused(71, "row(" + slot + ", 0, 1)", Edges::full, x -> x.row(slot, 0, 1), -2);
            edges.refused(71, "row(0, " + slot + ", 1)", Edges::full, x -> x.row(0, slot, 1), -2);
            edges.refused(72, "write(" + slot + ", 0, 1)", Edges::full, x -> x.write(slot, 0, 1), -2);
            edges.refused(73, "paste(" + slot + ", 0, 0, 0, 1)", Edges::full, x -> x.paste(slot, 0, 0, 0, 1), -2);
            edges.refused(73, "paste(0, 0, " + slot + ", 0, 1)", Edges::full, x -> x.paste(0, 0, slot, 0, 1), -2);
        }
        for (int slot = 0; slot < 4; slot++) {
            edges.due(71, "row of SLOT " + slot, new StarchGarrison().row(slot, 0, 1), 0);
            edges.due(71, "row of WIDTH " + slot, new StarchGarrison().row(0, slot, 60), 0);
        }
    }
}
