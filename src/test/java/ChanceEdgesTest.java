import java.math.BigInteger;

/** Promises 58 to 66: each sentence that names a boundary case of DAMP, of acts and of sieges drawn. */
public final class ChanceEdgesTest {
    private static final int LAST_SEED = 2000000000;
    private static final Edges edges = new Edges();

    public static void main(String[] args) {
        atHourZero();
        surely();
        lowestTerms();
        lastHour();
        frost();
        lineHolds();
        means();
        starchBounds();
        packetsEnough();
        thirtyActs();
        cracked();
        iron();
        undo();
        anew();
        draws();
        drawnFalls();
        luck();
        edges.finish("ChanceEdgesTest", 58, 66);
    }

    private static void due(int promise, String call, long got, long want) {
        edges.due(promise, call, got, want);
    }

    private static String odds(int hours, int odds) {
        return Edges.head(hours, 0, 0, 60, 0, odds);
    }

    private static void chance(String call, StarchGarrison x, int hour, long above, long below) {
        edges.fraction(58, call, x.chance(0, hour, 0), x.chance(0, hour, 1), above, below);
    }

    private static void line(String call, StarchGarrison x, int hour, long above, long below) {
        edges.fraction(59, call, x.line(hour, 0), x.line(hour, 1), above, below);
    }

    private static void mean(String call, StarchGarrison x, int hour, long above, long below) {
        edges.fraction(60, call, x.mean(0, hour, 0), x.mean(0, hour, 1), above, below);
    }

    // ---- promises 58 to 60 ----

    private static void atHourZero() {
        for (int odds : new int[] {0, 5, 10}) {
            StarchGarrison stands = Checks.told(odds(1, odds) + Edges.man(1, 9, 1));
            chance("HOUR 0, he STANDS", stands, 0, 1, 1);
            line("HOUR 0, it HOLDS", stands, 0, 1, 1);
            mean("HOUR 0", stands, 0, 1, 1);
            StarchGarrison sags = Checks.told(odds(1, odds) + Edges.man(0, 9, 1));
            chance("HOUR 0, he SAGS", sags, 0, 0, 1);
            line("HOUR 0, it does not", sags, 0, 0, 1);
            mean("HOUR 0, 0", sags, 0, 0, 1);
        }
    }

    private static void surely() {
        StarchGarrison never = Checks.told(odds(9, 0) + Edges.man(40, 1, 32));
        chance("odds 0", never, 8, 1, 1);
        line("odds 0", never, 8, 1, 1);
        mean("odds 0", never, 8, 32, 1);
        StarchGarrison ever = Checks.told(odds(9, 10) + Edges.man(40, 1, 1));
        chance("odds 10", ever, 7, 1, 1);
        chance("odds 10, no more", ever, 8, 0, 1);
        line("odds 10", ever, 7, 1, 1);
        line("odds 10, no more", ever, 8, 0, 1);
        mean("odds 10", ever, 7, 5, 1);
        mean("odds 10, 0 at least", ever, 8, 0, 1);
    }

    private static void lowestTerms() {
        int[][] want = {{1, 9, 10}, {2, 4, 5}, {3, 7, 10}, {4, 3, 5}, {5, 1, 2}, {6, 2, 5}, {7, 3, 10}, {8, 1, 5}, {9, 1, 10}};
        for (int[] one : want) {
            StarchGarrison x = Checks.told(odds(2, one[0]) + Edges.man(4, 0, 4));
            chance("odds " + one[0], x, 1, one[1], one[2]);
            line("odds " + one[0], x, 1, one[1], one[2]);
        }
        StarchGarrison x = Checks.told(odds(2, 5) + Edges.man(3, 0, 1));
        mean("3 or 0", x, 1, 3, 2);
        StarchGarrison four = Checks.told(odds(2, 5) + Edges.man(4, 0, 1));
        mean("4 or 0", four, 1, 2, 1);
        StarchGarrison fifty = Checks.told(odds(2, 1) + Edges.man(50, 0, 1));
        mean("50 or 46", fifty, 1, 248, 5);
    }

    private static void lastHour() {
        StarchGarrison x = Checks.told(odds(24, 1) + Edges.man(40, 0, 40));
        chance("dry for 8", x, 8, 43046721, 100000000);
        line("dry for 8", x, 8, 43046721, 100000000);
        mean("8 times less 4 of 10", x, 8, 184, 5);
        StarchGarrison wet = Checks.told(odds(9, 9) + Edges.man(31, 0, 1));
        // Only all 8 HOURS of DAMP take more than 30: 1 - (9 / 10)^8.
        chance("not wet for 8", wet, 8, 100000000 - 43046721, 100000000);
        for (int what = 0; what < 2; what++) {
            due(58, "HOUR 9 of 24", x.chance(0, 9, what), -2);
            due(59, "HOUR 9 of 24", x.line(9, what), -2);
            due(60, "HOUR 9 of 24", x.mean(0, 9, what), -2);
            due(58, "HOUR 9 of 9", wet.chance(0, 9, what), -2);
        }
        StarchGarrison eight = Checks.told(odds(8, 1) + Edges.man(40, 0, 40));
        due(58, "HOUR 8 of 8", eight.chance(0, 8, 0), -2);
        due(59, "HOUR 8 of 8", eight.line(8, 0), -2);
        due(60, "HOUR 8 of 8", eight.mean(0, 8, 0), -2);
        due(58, "HOUR 7 of 8", eight.chance(0, 7, 1), 10000000);
        StarchGarrison many = Checks.told(odds(9, 3) + Edges.man(99, 0, 60).repeat(6));
        due(60, "99 less 8 times 12 of 10, above", many.mean(5, 8, 0), 447);
        due(60, "below", many.mean(5, 8, 1), 5);
    }

    private static void frost() {
        StarchGarrison x = Checks.told(odds(3, 10) + Edges.man(40, 0, 40) + Edges.frost(0, 0));
        chance("no DAMP at FROST", x, 1, 1, 1);
        chance("but behind it", x, 2, 0, 1);
        mean("no DAMP at FROST", x, 1, 40, 1);
        mean("4 behind it", x, 2, 36, 1);
        StarchGarrison boiled = Checks.told(odds(2, 10) + Edges.boiled(40, 1, 40) + Edges.rain(3, 0, 0) + Edges.heat(1, 0, 0));
        mean("4 for one boiled, too: 40 less 2, 1, 4", boiled, 1, 33, 1);
        StarchGarrison cracks = Checks.told(odds(2, 5) + Edges.man(74, 0, 1) + Edges.frost(1, 1));
        chance("DAMP keeps him from cracking", cracks, 1, 1, 2);
        mean("70 or 0", cracks, 1, 35, 1);
        line("DAMP keeps him from cracking", cracks, 1, 1, 2);
    }

    private static void lineHolds() {
        StarchGarrison x = Checks.told(odds(3, 5) + Edges.man(4, 0, 4));
        x.starch(0, 2, 1);
        line("HOUR 1", x, 1, 1, 2);
        line("HOURS 0 to 2, though he STANDS at it", x, 2, 1, 2);
        chance("he STANDS at HOUR 2", x, 2, 1, 1);
        StarchGarrison none = Checks.told(odds(9, 5));
        line("no MEN", none, 8, 1, 1);
        due(58, "no MEN", none.chance(0, 0, 0), -2);
        due(60, "no MEN", none.mean(0, 0, 0), -2);
        // DAMP is the same for all MEN: both SAG at once or none does.
        StarchGarrison two = Checks.told(Edges.head(2, 0, 1, 0, 0, 5) + Edges.man(4, 0, 4).repeat(2));
        line("both at once", two, 1, 1, 2);
    }

    private static void means() {
        // By LAW 2 DAMP at HOUR 0 makes MAN 1 SAG at HOUR 1, and MAN 0 lose twice then.
        StarchGarrison x = Checks.told(Edges.head(3, 2, 0, 0, 0, 5) + Edges.man(50, 5, 1) + Edges.man(4, 0, 4));
        mean("50 45", x, 1, 43, 1);
        // Without: 45 then 40 or 36; with: 41 then 31 or 27.
        mean("by LAW 2", x, 2, 67, 2);
        StarchGarrison acts = Checks.told(odds(2, 5) + Edges.man(95, 0, 1));
        acts.starch(0, 1, 1);
        mean("acts as now, 99 at most", acts, 1, 99, 1);
    }

    // ---- promise 61 ----

    private static void starchBounds() {
        for (int n = 1; n <= 9; n++) {
            StarchGarrison x = Checks.told(odds(24, 0) + Edges.man(5, 0, 1));
            due(61, n + " PACKETS", x.starch(0, 0, n), 5 + 10 * n);
            due(61, n + " PACKETS at the last HOUR", x.starch(0, 23, n), Math.min(99, 5 + 20 * n));
            due(61, "2 acts", x.count(7), 2);
            due(61, "taken from the stock", x.stock(23), 60 - 2 * n);
        }
        for (int n : new int[] {0, 10, -1, Integer.MIN_VALUE, Integer.MAX_VALUE, 257}) {
            edges.refused(61, "starch with " + n, Edges::full, x -> x.starch(0, 0, n), -2);
        }
        due(61, "no MEN", Checks.told(odds(24, 0)).starch(0, 0, 1), -2);
    }

    private static StarchGarrison stocked(int packets, int weevils) {
        return Checks.told(Edges.head(24, 0, 0, packets, weevils, 0) + Edges.man(0, 0, 1));
    }

    private static void packetsEnough() {
        due(61, "just enough", stocked(9, 0).starch(0, 23, 9), 90);
        edges.refused(61, "not enough at it", () -> stocked(8, 0), x -> x.starch(0, 23, 9), -3);
        edges.refused(61, "no PACKETS", () -> stocked(0, 0), x -> x.starch(0, 0, 1), -3);
        edges.refused(61, "eaten", () -> stocked(9, 9), x -> x.starch(0, 6, 1), -3);
        due(61, "ahead of WEEVILS at the HOUR", stocked(9, 9).starch(0, 5, 9), 90);
        due(61, "what WEEVILS left", stocked(10, 9).starch(0, 6, 1), 10);
        edges.refused(61, "eaten to the last HOUR", () -> stocked(28, 9), x -> x.starch(0, 18, 2), -3);
        due(61, "WEEVILS of the last HOUR come too late", stocked(28, 9).starch(0, 23, 1), 10);
        edges.refused(61, "not enough at a later one", () -> later(5, 0), x -> x.starch(0, 0, 3), -3);
        due(61, "enough at a later one", later(5, 0).starch(0, 0, 2), 20);
        edges.refused(61, "WEEVILS eat what the later one takes", () -> later(12, 9), x -> x.starch(0, 0, 1), -3);
        edges.refused(61, "at the HOUR of the later one", () -> later(5, 0), x -> x.starch(0, 6, 3), -3);
        edges.refused(61, "behind the later one", () -> later(5, 0), x -> x.starch(0, 7, 3), -3);
        due(61, "behind the later one", later(5, 0).starch(0, 7, 2), 50);
        StarchGarrison x = stocked(60, 0);
        for (int i = 0; i < 6; i++) {
            x.starch(0, 0, 9);
        }
        due(61, "6 of 60 are left", x.stock(0), 6);
        due(61, "7 are too many", x.starch(0, 1, 7), -3);
        due(61, "6 are not", x.starch(0, 1, 6), 99);
        due(61, "none is left", x.starch(0, 2, 1), -3);
    }

    /** 3 PACKETS are taken at HOUR 6. */
    private static StarchGarrison later(int packets, int weevils) {
        StarchGarrison x = stocked(packets, weevils);
        x.starch(0, 6, 3);
        return x;
    }

    private static StarchGarrison thirty() {
        StarchGarrison x = Checks.told(Edges.head(2, 0, 0, 4, 0, 0) + Edges.man(0, 0, 1));
        for (int i = 0; i < 29; i++) {
            x.iron(0, i % 2);
        }
        due(61, "the 30th", x.starch(0, 1, 4), 99);
        return x;
    }

    private static void thirtyActs() {
        edges.refused(61, "a 31st", ChanceEdgesTest::thirty, x -> x.starch(0, 0, 1), -5);
        edges.refused(62, "a 31st", ChanceEdgesTest::thirty, x -> x.iron(0, 0), -5);
        edges.refused(61, "-5 ahead of -3", ChanceEdgesTest::thirty, x -> x.starch(0, 0, 9), -5);
        edges.refused(61, "-2 ahead of -5, MAN", ChanceEdgesTest::thirty, x -> x.starch(1, 0, 1), -2);
        edges.refused(61, "-2 ahead of -5, HOUR", ChanceEdgesTest::thirty, x -> x.starch(0, 2, 1), -2);
        edges.refused(61, "-2 ahead of -5, PACKETS", ChanceEdgesTest::thirty, x -> x.starch(0, 0, 10), -2);
        edges.refused(62, "-2 ahead of -5, MAN", ChanceEdgesTest::thirty, x -> x.iron(-1, 0), -2);
        edges.refused(62, "-2 ahead of -5, HOUR", ChanceEdgesTest::thirty, x -> x.iron(0, -1), -2);
        edges.refused(61, "-2 ahead of -3", () -> stocked(0, 0), x -> x.starch(0, 24, 1), -2);
        StarchGarrison x = thirty();
        due(63, "29 then", x.undo(), 29);
        due(61, "a 30th that is not enough", x.starch(0, 0, 5), -3);
        due(62, "a 30th", x.iron(0, 0), 99);
        due(62, "a 31st", x.iron(0, 0), -5);
        due(64, "all 30", x.anew(), 30);
        due(61, "the first again", x.starch(0, 0, 4), 40);
    }

    private static void cracked() {
        StarchGarrison x = Checks.told(odds(3, 0) + Edges.man(61, 0, 1) + Edges.frost(1, 1));
        due(61, "above 70 at FROST", x.starch(0, 1, 1), 0);
        due(61, "the PACKET is taken", x.stock(2), 59);
        due(61, "behind it", x.starch(0, 2, 9), 0);
        due(62, "behind it", x.iron(0, 2), 0);
        due(61, "ahead of it", x.starch(0, 0, 1), 71);
        due(61, "4 acts", x.count(7), 4);
    }

    // ---- promises 62 to 64 ----

    private static void iron() {
        StarchGarrison x = Checks.told(Edges.head(24, 0, 0, 0, 0, 0) + Edges.man(92, 0, 1));
        due(62, "without PACKETS, 99", x.iron(0, 0), 99);
        due(62, "99 at most", x.iron(0, 23), 99);
        due(62, "2 acts", x.count(7), 2);
        due(62, "no MEN", Checks.told(odds(24, 0)).iron(0, 0), -2);
    }

    private static void undo() {
        due(63, "there is none", stocked(9, 0).undo(), -5);
        due(63, "no GARRISON", new StarchGarrison().undo(), -2);
        due(63, "no MEN", Checks.told(odds(24, 0)).undo(), -5);
        edges.refused(63, "none to take back", () -> stocked(9, 0), x -> x.undo(), -5);
        StarchGarrison x = stocked(9, 0);
        x.starch(0, 9, 5);
        x.starch(0, 3, 4);
        due(63, "the latest given, not the latest HOUR", x.undo(), 1);
        due(63, "HOUR 3 as it was", x.stiff(0, 3), 0);
        due(63, "HOUR 9 still", x.stiff(0, 9), 50);
        due(63, "its PACKETS are back", x.stock(3), 9);
        due(63, "the other one", x.undo(), 0);
        due(63, "no more", x.undo(), -5);
        due(63, "all are back", x.stock(23), 9);
        x.starch(0, 0, 9);
        x.starch(0, 0, 1);
        due(63, "a refused one is no act", x.undo(), 0);
    }

    private static void anew() {
        due(64, "there were none", stocked(9, 0).anew(), 0);
        due(64, "no GARRISON", new StarchGarrison().anew(), -2);
        due(64, "no MEN", Checks.told(odds(24, 0)).anew(), 0);
        StarchGarrison x = later(9, 0);
        x.iron(0, 0);
        due(64, "both", x.anew(), 2);
        due(64, "none then", x.count(7), 0);
        due(64, "once more", x.anew(), 0);
        due(64, "as told", x.stiff(0, 23), 0);
        due(64, "the stock, too", x.stock(23), 9);
        due(64, "nothing to take back", x.undo(), -5);
    }

    // ---- promises 65 and 66 ----

    private static int bitsOf(long seed, int hours, int odds) {
        BigInteger x = BigInteger.valueOf(seed);
        int bits = 0;
        for (int hour = 0; hour < hours; hour++) {
            x = x.multiply(BigInteger.valueOf(1103515245L)).add(BigInteger.valueOf(12345)).mod(BigInteger.TWO.pow(31));
            if (x.shiftRight(16).mod(BigInteger.TEN).intValue() < odds) {
                bits |= 1 << hour;
            }
        }
        return bits;
    }

    private static void draws() {
        int[] seeds = {0, 1, 2, 65535, 65536, 1073741824, LAST_SEED - 1, LAST_SEED};
        for (int odds = 0; odds <= 10; odds++) {
            StarchGarrison day = Checks.told(odds(24, odds) + Edges.man(50, 0, 1));
            StarchGarrison hour = Checks.told(odds(1, odds));
            for (int seed : seeds) {
                due(65, "seed " + seed + ", odds " + odds, day.drawn(seed, 0), bitsOf(seed, 24, odds));
                due(65, "one HOUR, seed " + seed + ", odds " + odds, hour.drawn(seed, 0), bitsOf(seed, 1, odds));
            }
        }
        StarchGarrison x = Checks.told(odds(24, 10) + Edges.man(50, 0, 1));
        due(65, "seed 0, odds 10", x.drawn(0, 0), (1 << 24) - 1);
        int[] wrong = {-1, LAST_SEED + 1, Integer.MIN_VALUE, Integer.MAX_VALUE};
        for (int seed : wrong) {
            due(65, "seed " + seed, x.drawn(seed, 0), -2);
            due(65, "seed " + seed, x.drawn(seed, 1), -2);
            due(66, "seed " + seed, x.luck(seed, 1, 0), -2);
        }
        for (int what : new int[] {-1, 2, Integer.MIN_VALUE, Integer.MAX_VALUE}) {
            due(65, "what " + what, x.drawn(0, what), -2);
        }
        due(65, "no GARRISON", new StarchGarrison().drawn(0, 0), -2);
        // Seed 0: x is 12345, then 1406932606: draws 0, 8.
        due(65, "the first draw of seed 0 is 0", Checks.told(odds(2, 1)).drawn(0, 0), 1);
        due(65, "the second is 8", Checks.told(odds(2, 8)).drawn(0, 0), 1);
        due(65, "below 9", Checks.told(odds(2, 9)).drawn(0, 0), 3);
    }

    private static void drawnFalls() {
        due(65, "no DAMP, at none", Checks.told(odds(24, 0) + Edges.man(1, 0, 1)).drawn(LAST_SEED, 1), -1);
        due(65, "at HOUR 0", Checks.told(odds(24, 10) + Edges.man(0, 0, 1)).drawn(LAST_SEED, 1), 0);
        due(65, "at the last HOUR", Checks.told(odds(24, 10) + Edges.man(92, 0, 1)).drawn(LAST_SEED, 1), 23);
        due(65, "DAMP of the last HOUR comes too late", Checks.told(odds(24, 10) + Edges.man(93, 0, 1)).drawn(LAST_SEED, 1), -1);
        due(65, "no MEN", Checks.told(odds(24, 10)).drawn(0, 1), -1);
        StarchGarrison frost = Checks.told(odds(3, 10) + Edges.man(4, 0, 4) + Edges.frost(0, 0));
        due(65, "none at FROST", frost.drawn(0, 1), 2);
        due(65, "though it is told", frost.drawn(0, 0), 7);
        StarchGarrison acts = Checks.told(odds(3, 10) + Edges.man(4, 0, 4));
        due(65, "ahead of acts", acts.drawn(0, 1), 1);
        acts.starch(0, 0, 1);
        due(65, "acts as now", acts.drawn(0, 1), -1);
    }

    private static void luck() {
        for (int seed : new int[] {0, 1, 12345, LAST_SEED - 19, LAST_SEED}) {
            StarchGarrison x = Checks.told(odds(6, 5) + Edges.man(4, 0, 1) + Edges.man(12, 0, 4));
            for (int n : new int[] {1, 2, 19, 20}) {
                int first = 0;
                int second = 0;
                for (int i = 0; i < n; i++) {
                    int damp = Integer.bitCount(bitsOf((long) seed + i, 5, 5));
                    first += damp == 0 ? 1 : 0;
                    second += damp <= 2 ? 1 : 0;
                }
                due(66, n + " from seed " + seed, x.luck(seed, n, 0), first);
                due(66, n + " from seed " + seed + ", MAN 1", x.luck(seed, n, 1), second);
            }
        }
        StarchGarrison x = Checks.told(odds(1, 10) + Edges.man(1, 0, 1) + Edges.man(0, 0, 1));
        due(66, "one HOUR, he STANDS", x.luck(0, 20, 0), 20);
        due(66, "one HOUR, he SAGS", x.luck(0, 20, 1), 0);
        for (int n : new int[] {0, 21, -1, Integer.MIN_VALUE, Integer.MAX_VALUE}) {
            due(66, n + " sieges", x.luck(0, n, 0), -2);
        }
        due(66, "MAN 2", x.luck(0, 1, 2), -2);
        due(66, "MAN -1", x.luck(0, 1, -1), -2);
        due(66, "no GARRISON", new StarchGarrison().luck(0, 1, 0), -2);
        StarchGarrison later = Checks.told(odds(3, 10) + Edges.man(1, 0, 1));
        later.iron(0, 2);
        due(66, "at the last HOUR, though he SAGGED", later.luck(0, 20, 0), 20);
    }
}
