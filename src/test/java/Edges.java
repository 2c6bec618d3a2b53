import java.util.ArrayList;
import java.util.List;
import java.util.function.Supplier;
import java.util.function.ToLongFunction;

/** What the tests of boundary cases share: answers by the promise's number, refusals that leave all as it was, texts. */
final class Edges {
    private static final int PROMISES = 73;

    private final Checks checks = new Checks();
    private final int[] asked = new int[PROMISES + 1];

    void due(int promise, String call, long got, long want) {
        asked[promise]++;
        checks.due("promise " + promise + ": " + call, got, want);
    }

    void fraction(int promise, String call, long above, long below, long wantAbove, long wantBelow) {
        due(promise, call + ", above", above, wantAbove);
        due(promise, call + ", below", below, wantBelow);
    }

    /** The call is refused, and behind it the object answers all as its twin that was not so called. */
    void refused(int promise, String call, Supplier<StarchGarrison> maker, ToLongFunction<StarchGarrison> refusal, long want) {
        StarchGarrison called = maker.get();
        due(promise, call, refusal.applyAsLong(called), want);
        boolean same = stateOf(called).equals(stateOf(maker.get()));
        due(promise, call + ", all stays", same ? 1 : 0, 1);
    }

    /** Every promise from one number to another must have been asked for. */
    void finish(String name, int from, int to) {
        for (int promise = from; promise <= to; promise++) {
            checks.due("promise " + promise + " is asked for", asked[promise] > 0 ? 1 : 0, 1);
        }
        checks.finish(name);
    }

    // ---- texts ----

    static String head(int hours, int law, int gap, int packets, int weevils, int odds) {
        return "garrison hours " + hours + " law " + law + " gap " + gap + " packets " + packets + " weevils " + weevils
                + " odds " + odds + ";";
    }

    static String man(int stiff, int sweat, int needs) {
        return "man stiff " + stiff + " sweat " + sweat + " needs " + needs + ";";
    }

    static String boiled(int stiff, int sweat, int needs) {
        return "man stiff " + stiff + " sweat " + sweat + " needs " + needs + " boiled;";
    }

    static String rain(int amount, int from, int to) {
        return "rain " + amount + " from " + from + " to " + to + ";";
    }

    static String heat(int amount, int from, int to) {
        return "heat " + amount + " from " + from + " to " + to + ";";
    }

    static String frost(int from, int to) {
        return "frost from " + from + " to " + to + ";";
    }

    /** A GARRISON of all MEN there can be, of so many HOURS. */
    static String six(int hours) {
        return head(hours, 3, 1, 60, 9, 5) + man(60, 1, 30) + boiled(70, 2, 40) + man(50, 3, 10) + man(99, 0, 60)
                + boiled(0, 9, 1) + man(45, 4, 44) + rain(3, 1, 4) + heat(1, 0, 23) + frost(6, 7);
    }

    /** An object in which there is something of everything: acts, a FAULT, IMAGES 0 and 1, three rows, bytes on the TAPE. */
    static StarchGarrison full() {
        StarchGarrison x = Checks.told(head(2, 1, 3, 7, 1, 4) + man(20, 2, 11));
        x.iron(0, 1);
        x.image(1);
        Checks.put(x, head(6, 2, 1, 12, 2, 3) + man(40, 5, 30) + boiled(60, 4, 20) + man(80, 1, 9) + rain(5, 1, 2) + frost(4, 4));
        x.garrison();
        x.rate(0, 31);
        x.starch(1, 5, 3);
        x.image(0);
        x.iron(0, 2);
        x.starch(2, 0, 1);
        Checks.row(x, 0, 0, 1, 35, 2, 0, 90);
        x.row(1, 0, 4);
        x.write(1, 0, 1);
        x.write(1, 1, 1);
        x.write(1, 2, 4);
        x.row(3, 3, 3);
        x.write(3, 1, 1);
        x.write(3, 2, 35);
        Checks.put(x, head(3, 0, 0, 5, 0, 1) + man(7, 7, 7) + "x");
        x.garrison();
        return x;
    }

    /** All that can be asked of an object: what it has, its rows, its IMAGES, its TAPE. The object is used up by it. */
    static List<Long> stateOf(StarchGarrison x) {
        List<Long> state = new ArrayList<>();
        state.add((long) x.fault(0));
        state.add((long) x.fault(1));
        tell(x, state);
        for (int slot = 0; slot < 4; slot++) {
            state.add((long) x.laws(slot));
            state.add((long) x.stiffs(slot, 0));
            for (int n = 0; n <= 7; n++) {
                state.add((long) x.paste(slot, 0, slot, 0, n));
            }
        }
        for (int k = 0; k < 3; k++) {
            state.add((long) x.back(k));
            tell(x, state);
        }
        state.add((long) x.garrison());
        state.add((long) x.fault(0));
        state.add((long) x.fault(1));
        x.end(Math.max(0, x.count(9) - 1));
        state.add((long) x.garrison());
        tell(x, state);
        return state;
    }

    private static void tell(StarchGarrison x, List<Long> state) {
        for (int what = 0; what <= 10; what++) {
            state.add((long) x.count(what));
        }
        int men = x.count(6);
        for (int hour = 0; hour < Math.min(6, x.count(0)); hour++) {
            state.add((long) x.rain(hour));
            state.add((long) x.heat(hour));
            state.add((long) x.stock(hour));
            for (int man = 0; man < men; man++) {
                state.add((long) x.stiff(man, hour));
            }
        }
        for (int man = 0; man < men; man++) {
            for (int what = 0; what < 4; what++) {
                state.add((long) x.man(man, what));
            }
        }
        state.add((long) x.frosts());
    }
}
