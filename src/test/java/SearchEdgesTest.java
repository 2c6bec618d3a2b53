/** Promises 37 to 57: each sentence that names a boundary case of shares, orders, ironing, what was seen, laws and the game. */
public final class SearchEdgesTest {
    private static final int DAY = (1 << 24) - 1;
    private static final Edges edges = new Edges();

    public static void main(String[] args) {
        wants();
        sharesOfOne();
        sharesOfSix();
        sharesOfNone();
        sharesInFrost();
        fewest();
        orders();
        change();
        irons();
        ironedLeast();
        othersAsNow();
        seenBounds();
        seenRows();
        seenWidths();
        asked();
        soonAndLate();
        lawsRows();
        lawsBounds();
        byAndLaw();
        gets();
        rests();
        withThirtyActs();
        edges.finish("SearchEdgesTest", 37, 57);
    }

    private static void due(int promise, String call, long got, long want) {
        edges.due(promise, call, got, want);
    }

    private static String hours(int hours) {
        return Edges.head(hours, 0, 0, 0, 0, 0);
    }

    private static StarchGarrison one(int hours, int stiff, int sweat, int needs) {
        return Checks.told(hours(hours) + Edges.man(stiff, sweat, needs));
    }

    // ---- promise 37 ----

    private static void wants() {
        due(37, "one HOUR, needs 1", one(1, 50, 9, 1).wants(0, 0), 1);
        due(37, "one HOUR, needs 60", one(1, 0, 9, 60).wants(0, 0), 60);
        due(37, "99 at most", one(24, 0, 3, 60).wants(0, 13), 99);
        due(37, "by none", one(24, 0, 3, 60).wants(0, 14), -1);
        due(37, "at the last HOUR", one(24, 50, 4, 7).wants(0, 23), 99);
        due(37, "at the last HOUR by none", one(24, 50, 4, 8).wants(0, 23), -1);
        StarchGarrison frost = Checks.told(hours(4) + Edges.man(99, 5, 60) + Edges.frost(0, 0));
        due(37, "70 at FROST", frost.wants(0, 2), 70);
        due(37, "above it he CRACKS", frost.wants(0, 3), -1);
        StarchGarrison acts = Checks.told(Edges.head(3, 0, 0, 60, 0, 0) + Edges.man(50, 0, 7));
        acts.iron(0, 0);
        due(37, "0 with what is done", acts.wants(0, 2), 0);
        acts.rate(0, 8);
        acts.undo();
        acts.starch(0, 1, 9);
        due(37, "at HOUR 0 he must STAND, too", acts.wants(0, 1), 7);
        due(37, "told as it was", acts.man(0, 0), 50);
    }

    // ---- promises 38 to 41 ----

    private static void sharesOfOne() {
        StarchGarrison x = one(24, 0, 1, 40);
        int[] hold = {-1, -1, -1, -1, 0, 10, 20};
        for (int n = 0; n <= 6; n++) {
            due(38, "hold(" + n + ")", x.hold(n), hold[n]);
            due(39, "all to one", x.share(n, 0), n);
            due(40, "one way", x.shares(n), 1);
        }
        due(38, "one HOUR", one(1, 1, 0, 1).hold(0), 0);
        due(38, "24 HOURS", one(24, 1, 0, 1).hold(0), 23);
        due(38, "all but the last", one(24, 23, 1, 1).hold(0), 22);
        due(38, "not from the stock", x.stock(0), 0);
        due(38, "no act", x.count(7), 0);
        due(39, "no 2nd MAN", x.share(0, 1), -2);
    }

    private static void sharesOfSix() {
        StarchGarrison x = Checks.told(hours(24) + Edges.man(0, 0, 10).repeat(6));
        due(38, "five are not enough", x.hold(5), -1);
        due(38, "six are", x.hold(6), 23);
        due(40, "in one way", x.shares(6), 1);
        for (int man = 0; man < 6; man++) {
            due(39, "one each", x.share(6, man), 1);
        }
        StarchGarrison any = Checks.told(hours(24) + Edges.man(1, 0, 1).repeat(6));
        int[] ways = {1, 6, 21, 56, 126, 252, 462};
        for (int n = 0; n <= 6; n++) {
            due(40, "all ways of " + n, any.shares(n), ways[n]);
            due(39, "the least row, MAN 5 of " + n, any.share(n, 5), n);
            due(39, "the least row, MAN 0 of " + n, any.share(n, 0), 0);
        }
        StarchGarrison first = Checks.told(Edges.head(2, 0, 1, 0, 0, 0) + Edges.man(0, 0, 10).repeat(3));
        // With gap 1 the MAN in the middle is enough, or both beside him.
        due(39, "the least row, MAN 0", first.share(2, 0), 0);
        due(39, "the least row, MAN 1", first.share(2, 1), 1);
        due(39, "the least row, MAN 2", first.share(2, 2), 1);
        due(40, "0 1 1, 0 2 0, 1 0 1, 1 1 0", first.shares(2), 4);
    }

    private static void sharesOfNone() {
        StarchGarrison x = Checks.told(hours(24));
        due(38, "no MEN, no PACKETS", x.hold(0), 23);
        due(40, "no MEN, no PACKETS", x.shares(0), 1);
        due(38, "no MEN, no share", x.hold(6), -1);
        due(40, "no MEN, no share", x.shares(6), 0);
        due(39, "no MEN", x.share(0, 0), -2);
        due(41, "no MEN", x.fewest(23), 0);
    }

    private static void sharesInFrost() {
        StarchGarrison x = Checks.told(hours(2) + Edges.man(60, 5, 1) + Edges.man(61, 5, 1) + Edges.frost(0, 0));
        due(38, "none too many", x.hold(0), 1);
        due(38, "70 does not CRACK", x.hold(1), 1);
        due(40, "MAN 0 alone can have it", x.shares(1), 1);
        due(39, "MAN 0", x.share(1, 0), 1);
        due(38, "both are too many", x.hold(2), -1);
        StarchGarrison later = Checks.told(hours(3) + Edges.man(60, 0, 1) + Edges.man(61, 0, 1) + Edges.frost(2, 2));
        due(38, "to the HOUR ahead of FROST", later.hold(2), 1);
        due(40, "all alike then", later.shares(2), 3);
        StarchGarrison most = Checks.told(hours(6) + Edges.man(95, 9, 60));
        due(38, "99 at most: 99 90 81 72 63 54", most.hold(6), 4);
    }

    private static void fewest() {
        StarchGarrison x = one(2, 0, 1, 60);
        due(41, "six", x.fewest(0), 6);
        due(41, "by none", x.fewest(1), -1);
        StarchGarrison now = one(24, 24, 1, 1);
        due(41, "none needed at HOUR 0", now.fewest(0), 0);
        due(41, "none needed at the last", now.fewest(23), 0);
        StarchGarrison day = one(24, 23, 1, 1);
        due(41, "none to the last but one", day.fewest(22), 0);
        due(41, "one for the last", day.fewest(23), 1);
        StarchGarrison six = Checks.told(hours(3) + Edges.man(0, 0, 10).repeat(6));
        due(41, "one each", six.fewest(2), 6);
        due(41, "one each and more", Checks.told(hours(3) + Edges.man(0, 0, 10).repeat(5) + Edges.man(0, 0, 11)).fewest(2), -1);
        StarchGarrison frost = Checks.told(hours(2) + Edges.man(64, 5, 60) + Edges.frost(0, 0));
        due(41, "more would CRACK him", frost.fewest(0), 0);
        due(41, "so by none", frost.fewest(1), -1);
    }

    // ---- promises 42 to 44 ----

    private static void orders() {
        due(42, "no MEN", Checks.told(hours(24)).ordered(), 23);
        due(43, "no MEN", Checks.told(hours(24)).order(0), -2);
        due(42, "one MAN", one(24, 23, 1, 1).ordered(), 22);
        due(43, "one MAN", one(24, 23, 1, 1).order(0), 0);
        due(43, "no other place", one(24, 23, 1, 1).order(1), -2);
        due(42, "not even HOUR 0", one(24, 0, 0, 1).ordered(), -1);
        due(42, "one HOUR", one(1, 1, 0, 1).ordered(), 0);
        StarchGarrison six = Checks.told(Edges.head(24, 0, 1, 0, 0, 0) + Edges.man(0, 0, 1).repeat(3) + Edges.man(1, 0, 1).repeat(3));
        due(42, "one between each two", six.ordered(), 23);
        int[] order = {0, 3, 1, 4, 2, 5};
        for (int i = 0; i < 6; i++) {
            due(43, "the least row at " + i, six.order(i), order[i]);
        }
        due(43, "a 7th place", six.order(6), -2);
        due(43, "place -1", six.order(-1), -2);
        due(42, "as now it does not HOLD", six.falls(), 0);
        StarchGarrison best = Checks.told(Edges.head(24, 0, 0, 0, 0, 0) + Edges.man(9, 1, 1).repeat(6));
        due(42, "all orders alike", best.ordered(), 8);
        for (int i = 0; i < 6; i++) {
            due(43, "the least row of all at " + i, best.order(i), i);
        }
        StarchGarrison middle = Checks.told(Edges.head(2, 0, 1, 0, 0, 0) + Edges.man(1, 0, 1) + Edges.man(0, 0, 1).repeat(2));
        int[] between = {1, 0, 2};
        for (int i = 0; i < 3; i++) {
            due(43, "MAN 0 between the others at " + i, middle.order(i), between[i]);
        }
        // By LAW 2 MAN 0, who SAGS, makes the one beside him lose twice: MAN 2 bears it, MAN 1 does not.
        StarchGarrison law = Checks.told(Edges.head(3, 2, 1, 0, 0, 0) + Edges.man(0, 0, 1) + Edges.man(20, 5, 10) + Edges.man(40, 5, 10));
        due(42, "who is beside whom", law.ordered(), 2);
        int[] beside = {0, 2, 1};
        for (int i = 0; i < 3; i++) {
            due(43, "who is beside whom at " + i, law.order(i), beside[i]);
        }
    }

    private static void change() {
        StarchGarrison six = Checks.told(Edges.head(24, 0, 1, 0, 0, 0) + Edges.man(0, 0, 1).repeat(3) + Edges.man(1, 0, 1).repeat(3));
        due(44, "the first of several", six.change(), 14);
        due(44, "no MEN", Checks.told(hours(24)).change(), -1);
        due(44, "one MAN", one(24, 0, 0, 1).change(), -1);
        due(44, "not longer than now", Checks.told(hours(24) + Edges.man(1, 0, 1).repeat(6)).change(), -1);
        due(44, "none is enough", Checks.told(hours(24) + Edges.man(0, 0, 1).repeat(6)).change(), -1);
        StarchGarrison last = Checks.told(Edges.head(2, 0, 1, 0, 0, 0) + Edges.man(1, 0, 1).repeat(4)
                + Edges.man(0, 0, 1).repeat(2));
        due(44, "0 and 4", last.change(), 4);
        StarchGarrison first = Checks.told(Edges.head(2, 0, 1, 0, 0, 0) + Edges.man(0, 0, 1).repeat(2) + Edges.man(1, 0, 1));
        due(44, "1 and 2", first.change(), 12);
        // A MAN of STIFF k SAGS from HOUR k on: it HOLDS to HOUR 1; by 0 and 3 to HOUR 5, by 1 and 4, or 1 and 5, to HOUR 7.
        StringBuilder line = new StringBuilder();
        for (int stiff : new int[] {2, 0, 6, 8, 8, 8}) {
            line.append(Edges.man(stiff, 1, 1));
        }
        StarchGarrison longest = Checks.told(Edges.head(9, 0, 1, 0, 0, 0) + line);
        due(44, "as now", longest.falls(), 2);
        due(44, "longest", longest.change(), 14);
    }

    // ---- promises 45 and 46 ----

    private static void ironing(String call, StarchGarrison x, int fewest, int set) {
        due(45, call, x.irons(0), fewest);
        due(46, call, x.ironed(0), set);
        due(45, call + ", no act", x.count(7), 0);
    }

    private static void irons() {
        ironing("none needed", one(24, 1, 0, 1), 0, 0);
        ironing("at every HOUR", one(24, 53, 7, 60), 24, DAY);
        ironing("at every HOUR it is not enough", one(24, 53, 8, 60), -1, -1);
        ironing("one HOUR", one(1, 53, 9, 60), 1, 1);
        ironing("one HOUR, too weak", one(1, 52, 0, 60), -1, -1);
        ironing("once an HOUR", one(1, 46, 0, 60), -1, -1);
        ironing("for the last HOUR", one(24, 23, 1, 1), 1, 1);
        ironing("70 at FROST", Checks.told(hours(1) + Edges.man(63, 0, 60) + Edges.frost(0, 0)), 0, 0);
        ironing("to 70 at FROST", Checks.told(hours(3) + Edges.man(63, 5, 60) + Edges.frost(0, 0)), 1, 1);
        ironing("to 71 he would CRACK", Checks.told(hours(2) + Edges.man(64, 5, 60) + Edges.frost(0, 0)), 1, 2);
        ironing("he CRACKS anyway", Checks.told(hours(2) + Edges.man(71, 0, 1) + Edges.frost(1, 1)), -1, -1);
        ironing("at 99 it is of no use", one(3, 99, 9, 60), 0, 0);
        ironing("99 and nothing lost", one(1, 99, 0, 60), 0, 0);
        ironing("all lost behind the last HOUR", one(1, 9, 9, 1), 0, 0);
    }

    private static void ironedLeast() {
        ironing("HOUR 0 of 0, 1, 2", one(4, 10, 1, 8), 1, 1);
        // 99 90 81 72 63 54 less than 60 at HOUR 5: at HOUR 0 it is cut, so HOUR 1 is the first of use.
        ironing("HOUR 1 of 1 .. 5", one(6, 99, 9, 60), 1, 2);
        // 43: at HOURS 1, 2 (35 42 34 41 33) or at 0, 3 (50 41 33 26 33), not at 0, 1 nor at 0, 2.
        ironing("1, 2 are less as bits than 0, 3", Checks.told(Edges.head(4, 1, 0, 0, 0, 0) + Edges.man(43, 4, 33)), 2, 6);
        StarchGarrison acts = Checks.told(Edges.head(2, 0, 0, 60, 0, 0) + Edges.man(0, 9, 14));
        acts.iron(0, 0);
        acts.iron(0, 1);
        due(45, "besides acts, 14 5 12 needs both", acts.irons(0), 2);
        acts.iron(0, 1);
        due(45, "besides acts, 14 5 19 or more", acts.irons(0), 1);
        due(46, "at HOUR 0 he needs it", acts.ironed(0), 1);
        due(45, "acts are as they were", acts.count(7), 3);
    }

    /** By LAW 2 a MAN beside one who SAGS as now loses twice, though ironing him would make the other STAND. */
    private static void othersAsNow() {
        StarchGarrison x = Checks.told(Edges.head(4, 2, 0, 0, 0, 0) + Edges.man(20, 2, 20) + Edges.man(14, 2, 10));
        // As now MAN 0 is 20 18 16 12, so MAN 1 is 14 12 8 4. Ironed at HOUR 0 alone MAN 0 is 27 25 23 19, not 21.
        due(45, "MAN 1 SAGS at HOUR 2 as now", x.irons(0), 2);
        due(46, "27 32 30 26", x.ironed(0), 3);
        StarchGarrison law = Checks.told(Edges.head(4, 0, 0, 0, 0, 0) + Edges.man(20, 2, 20) + Edges.man(14, 2, 10));
        due(45, "by LAW 0 once is enough", law.irons(0), 1);
    }

    // ---- promises 47 to 52 ----

    private static void all(StarchGarrison x, int slot, int man, int... want) {
        due(47, "stiffs", x.stiffs(slot, man), want[0]);
        due(48, "least", x.least(slot, man), want[1]);
        due(49, "most", x.most(slot, man), want[2]);
        due(50, "ask", x.ask(slot, man), want[3]);
        due(51, "soon", x.soon(slot, man), want[4]);
        due(52, "late", x.late(slot, man), want[5]);
    }

    private static void refuses(StarchGarrison x, int slot, int man, int refusal) {
        all(x, slot, man, refusal, refusal, refusal, refusal, refusal, refusal);
    }

    private static void seenBounds() {
        StarchGarrison x = one(8, 50, 1, 10);
        long[][] wrong = {{8, 0}, {8, 1}, {-1, 0}, {0, 2}, {0, -1}, {0, 1, 8, 1}, {7, 1, 0, 2}, {1L << 32, 1}, {0, 1L << 32},
            {Long.MIN_VALUE, 0}, {0, Long.MAX_VALUE}};
        for (long[] row : wrong) {
            Checks.row(x, 3, row);
            refuses(x, 3, 0, -2);
        }
        for (int n : new int[] {1, 3, 59}) {
            x.row(3, 3, n);
            refuses(x, 3, 0, -2);
        }
        refuses(x, 2, 0, -6);
        refuses(x, 2, 1, -2);
        refuses(x, 4, 0, -2);
        refuses(x, -1, 0, -2);
        Checks.row(x, 3, 7, 0, 0, 1);
        all(x, 3, 0, 7, 10, 16, 3, 1, 7);
        StarchGarrison none = new StarchGarrison();
        refuses(none, 0, 0, -2);
        none.row(0, 0, 1);
        refuses(none, 0, 0, -2);
        StarchGarrison noMen = Checks.told(hours(8));
        refuses(noMen, 0, 0, -2);
        noMen.row(0, 0, 0);
        refuses(noMen, 0, 0, -2);
    }

    private static void seenRows() {
        StarchGarrison x = one(8, 50, 1, 10);
        x.row(0, 3, 0);
        // STANDS at HOUR h from 10 + h on; 100 ways: 10 never STAND at HOUR 0, 83 at all HOURS.
        all(x, 0, 0, 100, 0, 99, 7, 0, 7);
        x.row(0, 3, 60);
        all(x, 0, 0, 10, 0, 9, -1, 0, 0);
        for (int i = 0; i < 60; i += 2) {
            x.write(0, i, 7);
            x.write(0, i + 1, 1);
        }
        all(x, 0, 0, 83, 17, 99, -1, -1, -1);
        x.write(0, 59, 0);
        all(x, 0, 0, 0, -1, -1, -1, -1, -1);
        x.write(0, 58, 6);
        all(x, 0, 0, 0, -1, -1, -1, -1, -1);
        Checks.row(x, 0, 0, 1, 1, 0);
        all(x, 0, 0, 1, 10, 10, -1, 1, 1);
        StarchGarrison strong = one(1, 50, 0, 60);
        Checks.row(strong, 0, 0, 1);
        all(strong, 0, 0, 40, 60, 99, -1, -1, -1);
        due(47, "told does not matter", one(8, 0, 1, 10).stiffs(0, 0), -6);
        StarchGarrison frost = Checks.told(hours(2) + Edges.man(5, 0, 50) + Edges.frost(0, 0));
        Checks.row(frost, 0, 0, 1);
        all(frost, 0, 0, 21, 50, 70, -1, -1, -1);
        Checks.row(frost, 0, 0, 0);
        all(frost, 0, 0, 79, 0, 99, -1, 0, 0);
    }

    private static void seenWidths() {
        StarchGarrison x = one(8, 50, 1, 10);
        long[] cut = {1L << 8, 1L << 16, 1L << 32, 0};
        for (int width = 0; width < 4; width++) {
            x.row(width, width, 2);
            x.write(width, 0, 7 + cut[width]);
            x.write(width, 1, 1 - cut[width]);
            all(x, width, 0, 83, 17, 99, -1, -1, -1);
            x.write(width, 0, -1);
            refuses(x, width, 0, -2);
            x.write(width, 0, 7 - cut[width]);
            due(47, "cut to WIDTH " + width, x.stiffs(width, 0), 83);
            x.write(width, 1, width == 0 ? 1 << 7 : 1L << 8);
            due(47, "not cut by WIDTH " + width, x.stiffs(width, 0), -2);
            x.write(width, 1, Long.MIN_VALUE);
            due(47, "the highest bit alone, WIDTH " + width, x.stiffs(width, 0), width == 3 ? -2 : 17);
        }
    }

    private static void asked() {
        StarchGarrison x = one(3, 0, 9, 50);
        x.row(0, 0, 0);
        due(50, "50 and 50 at HOUR 0", x.ask(0, 0), 0);
        x.row(0, 0, 2);
        due(50, "all SAG at all HOURS", x.ask(0, 0), -1);
        x.write(0, 1, 1);
        // 50 .. 99: STAND at HOUR 1 from 59 on, at HOUR 2 from 68 on: at worst 41, 32.
        due(50, "the fewest at worst", x.ask(0, 0), 2);
        StarchGarrison still = one(24, 0, 0, 50);
        still.row(0, 0, 0);
        due(50, "the first of several", still.ask(0, 0), 0);
        Checks.row(x, 0, 0, 1, 0, 0);
        due(50, "of none", x.ask(0, 0), -1);
        StarchGarrison last = one(24, 0, 0, 1);
        Checks.row(last, 0, 0, 1);
        due(50, "all STAND at all HOURS", last.ask(0, 0), -1);
    }

    private static void soonAndLate() {
        StarchGarrison x = one(24, 0, 1, 1);
        x.row(0, 0, 0);
        due(51, "at HOUR 0", x.soon(0, 0), 0);
        due(52, "at the last HOUR", x.late(0, 0), 23);
        Checks.row(x, 0, 22, 1);
        due(51, "at the last HOUR alone", x.soon(0, 0), 23);
        due(52, "at the last HOUR alone", x.late(0, 0), 23);
        Checks.row(x, 0, 23, 1);
        due(51, "by none", x.soon(0, 0), -1);
        due(52, "by none", x.late(0, 0), -1);
        Checks.row(x, 0, 0, 0);
        due(52, "at HOUR 0", x.late(0, 0), 0);
        Checks.row(x, 0, 5, 1, 9, 0);
        due(51, "of these", x.soon(0, 0), 6);
        due(52, "of these", x.late(0, 0), 9);
    }

    // ---- promises 53 to 55 ----

    private static void lawsRows() {
        StarchGarrison x = Checks.told(hours(2) + Edges.man(99, 1, 60) + Edges.man(0, 0, 1));
        x.row(0, 3, 0);
        due(53, "nothing seen", x.laws(0), 15);
        // MAN 1 SAGS: MAN 0 is 98 by LAW 0, 89 by 1, 97 by 2, 88 by 3.
        int[] stiff = {98, 89, 97, 88};
        for (int law = 0; law < 4; law++) {
            Checks.row(x, 0, 0, 1, stiff[law]);
            due(53, "by LAW " + law, x.laws(0), 1 << law);
        }
        Checks.row(x, 0, 0, 1, 90);
        due(53, "by none", x.laws(0), 0);
        Checks.row(x, 0, 0, 1, 98, 0, 1, 97);
        due(53, "both by none", x.laws(0), 0);
        x.row(0, 3, 60);
        for (int i = 0; i < 60; i += 3) {
            x.write(0, i + 2, 99);
        }
        due(53, "twenty times the same", x.laws(0), 15);
        x.write(0, 58, 1);
        x.write(0, 59, 88);
        due(53, "but for the last", x.laws(0), 8);
        due(53, "of none without MEN", emptyRow(hours(3)).laws(0), 15);
    }

    private static StarchGarrison emptyRow(String text) {
        StarchGarrison x = Checks.told(text);
        x.row(0, 0, 0);
        return x;
    }

    private static void lawsBounds() {
        StarchGarrison x = Checks.told(hours(2) + Edges.man(99, 1, 60) + Edges.man(0, 0, 1));
        Checks.row(x, 0, 0, 0, 99, 1, 1, 0);
        due(53, "STIFF 99 and 0", x.laws(0), 15);
        long[][] wrong = {{0, 0, 100}, {0, 0, -1}, {2, 0, 0}, {-1, 0, 0}, {0, 2, 0}, {0, -1, 0}, {0, 0, 99, 0, 0, 100},
            {0, 0, 1L << 32}, {1L << 32, 0, 99}, {0, 1L << 32, 99}, {0, 0, Long.MIN_VALUE}};
        for (long[] row : wrong) {
            Checks.row(x, 0, row);
            due(53, "a number is none such", x.laws(0), -2);
        }
        for (int n : new int[] {1, 2, 4, 5, 58, 59}) {
            x.row(0, 3, n);
            due(53, n + " are not three each", x.laws(0), -2);
        }
        due(53, "nothing", x.laws(1), -6);
        due(53, "SLOT 4", x.laws(4), -2);
        due(53, "SLOT -1", x.laws(-1), -2);
        due(53, "no GARRISON ahead of nothing", new StarchGarrison().laws(0), -2);
        StarchGarrison noMen = Checks.told(hours(3));
        due(53, "no MEN, nothing", noMen.laws(0), -6);
        noMen.row(0, 0, 3);
        due(53, "no MEN, MAN 0 is none such", noMen.laws(0), -2);
    }

    private static void byAndLaw() {
        for (int law = 0; law < 4; law++) {
            StarchGarrison x = Checks.told(Edges.head(3, law, 1, 0, 0, 0) + Edges.man(0, 0, 1) + Edges.man(50, 5, 40));
            // MAN 1: 50 45 40 by LAW 0, 50 40 31 by 1, 50 40 30 by 2, 50 35 .. by 3.
            int[] by = {-1, 2, 2, 1};
            for (int other = 0; other < 4; other++) {
                due(54, "by " + other + " in place of " + law, x.by(other), by[other]);
            }
            due(54, "by LAW 4", x.by(4), -2);
            due(54, "by LAW -1", x.by(-1), -2);
            due(55, "never is latest", x.law(), 0);
            due(54, "LAW as told", x.count(1), law);
        }
        due(55, "the least of several that never", Checks.told(Edges.head(3, 3, 0, 0, 0, 0) + Edges.man(9, 0, 1)).law(), 0);
        due(55, "the least of several at HOUR 0", Checks.told(Edges.head(3, 3, 0, 0, 0, 0) + Edges.man(0, 0, 1)).law(), 0);
        due(55, "no MEN", Checks.told(Edges.head(3, 3, 0, 0, 0, 0)).law(), 0);
        due(54, "no MEN", Checks.told(Edges.head(3, 3, 0, 0, 0, 0)).by(0), -1);
        due(54, "at HOUR 0", Checks.told(Edges.head(3, 3, 0, 0, 0, 0) + Edges.man(0, 0, 1)).by(0), 0);
        // By LAW 1 he loses a tenth more and so is below 71 at FROST.
        String frost = Edges.head(3, 0, 0, 0, 0, 0) + Edges.man(75, 0, 1) + Edges.frost(1, 1);
        due(54, "LAW 0: he CRACKS", Checks.told(frost).by(0), 1);
        due(54, "LAW 1: he does not", Checks.told(frost).by(1), -1);
        due(54, "LAW 2: he CRACKS", Checks.told(frost).by(2), 1);
        due(55, "the least of 1 and 3", Checks.told(frost).law(), 1);
        due(54, "at the last HOUR", one(24, 23, 1, 1).by(0), 23);
    }

    // ---- promises 56 and 57 ----

    private static void gets() {
        StarchGarrison weak = Checks.told(hours(24) + Edges.man(0, 0, 11) + Edges.man(0, 0, 10));
        due(57, "at none, he takes: -2 is no refusal", weak.gets(0, 1, 1, 0), -2);
        due(57, "at none", weak.gets(0, 1, 0, 0), 0);
        due(57, "at all, he takes", weak.gets(1, 0, 1, 0), 22);
        due(57, "the other one takes", weak.gets(1, 0, 0, 1), 0);
        due(57, "not from the stock", weak.stock(0), 0);
        due(57, "one twice", weak.gets(0, 0, 0, 0), -1000);
        due(57, "one twice, the other", weak.gets(1, 1, 1, 1), -1000);
        int[][] wrong = {{2, 0, 0, 0}, {0, 2, 0, 0}, {-1, 0, 0, 0}, {0, -1, 0, 0}, {0, 1, 2, 0}, {0, 1, -1, 0}, {0, 1, 0, 2}, {0, 1, 0, -1},
            {0, 1, Integer.MAX_VALUE, 0}, {0, 1, 0, Integer.MIN_VALUE}};
        for (int[] call : wrong) {
            due(57, "none such", weak.gets(call[0], call[1], call[2], call[3]), -1000);
        }
        StarchGarrison frost = Checks.told(hours(24) + Edges.man(61, 0, 1) + Edges.man(60, 0, 1) + Edges.frost(0, 0));
        due(57, "he CRACKS by it", frost.gets(0, 1, 1, 1), -2);
        due(57, "70 does not", frost.gets(1, 0, 1, 1), 22);
        StarchGarrison beside = Checks.told(Edges.head(9, 2, 0, 0, 0, 0) + Edges.man(50, 5, 30) + Edges.man(0, 0, 10));
        due(57, "50 40 30 20 beside one who SAGS", beside.gets(0, 1, 0, 0), 3);
        due(57, "50 45 40 35 30 25, as the other one takes", beside.gets(0, 1, 0, 1), 5);
        due(57, "60 50 40 30 20, he takes", beside.gets(0, 1, 1, 0), 2);
        due(57, "60 55 .. 30 25, both", beside.gets(0, 1, 1, 1), 5);
        StarchGarrison strong = one(24, 99, 0, 1);
        due(57, "one alone", strong.gets(0, 0, 0, 0), -1000);
    }

    private static void rests() {
        int[] bits = {1, 15, 8};
        for (int hours = 1; hours <= 3; hours++) {
            StarchGarrison x = Checks.told(hours(hours) + Edges.man(0, 0, 10).repeat(2));
            due(56, "worth " + hours + " for 2", x.rests(0, 1), bits[hours - 1]);
        }
        StarchGarrison first = Checks.told(hours(3) + Edges.man(0, 0, 10) + Edges.man(10, 0, 10));
        due(56, "the first one takes", first.rests(0, 1), 2);
        due(56, "the other one takes", first.rests(1, 0), 4);
        due(56, "one twice", first.rests(0, 0), -2);
        due(56, "one twice, the other", first.rests(1, 1), -2);
        due(56, "MAN 2", first.rests(0, 2), -2);
        due(56, "MAN 2 ahead", first.rests(2, 0), -2);
        due(56, "MAN -1", first.rests(0, -1), -2);
        due(56, "no MEN", Checks.told(hours(3)).rests(0, 1), -2);
        due(56, "one MAN", one(3, 1, 1, 1).rests(0, 1), -2);
        StarchGarrison two = Checks.told(hours(24) + Edges.man(0, 0, 20).repeat(2));
        due(56, "1 PACKET is too little, more are no choice", two.rests(0, 1), 1);
        StarchGarrison six = Checks.told(hours(3) + Edges.man(0, 0, 10).repeat(6));
        due(56, "the last two", six.rests(4, 5), 8);
        due(56, "the first and the last", six.rests(5, 0), 8);
    }

    /** What is besides is no act: it is answered though there are 30. */
    private static void withThirtyActs() {
        StarchGarrison x = Checks.told(Edges.head(3, 0, 0, 0, 0, 0) + Edges.man(0, 0, 8) + Edges.man(50, 0, 1));
        for (int i = 0; i < 30; i++) {
            x.iron(1, 2);
        }
        due(37, "with 30 acts", x.wants(0, 2), 8);
        due(38, "with 30 acts", x.hold(1), 2);
        due(39, "with 30 acts", x.share(1, 0), 1);
        due(40, "with 30 acts", x.shares(1), 1);
        due(41, "with 30 acts", x.fewest(2), 1);
        due(42, "with 30 acts", x.ordered(), -1);
        due(45, "with 30 acts", x.irons(0), -1);
        due(56, "with 30 acts", x.rests(0, 1), 2);
        due(57, "with 30 acts", x.gets(0, 1, 1, 0), 1);
        due(53, "with 30 acts", x.laws(0), -6);
        Checks.row(x, 0, 1, 2, 99);
        due(53, "29 of them are enough", x.laws(0), 15);
        due(57, "30 acts still", x.count(7), 30);
    }
}
