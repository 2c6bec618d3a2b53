/** Promises 67 to 73: each sentence that names a boundary case of rates, counts, IMAGES and SLOTS. */
public final class KeepingEdgesTest {
    private static final Edges edges = new Edges();

    public static void main(String[] args) {
        rate();
        rateWithActs();
        count();
        imageOfNone();
        imageIsItsOwn();
        imageInPlace();
        backLeaves();
        rowBounds();
        rowInPlace();
        writeBounds();
        writeCut();
        pasteRefused();
        pasteBeyond();
        pasteWhole();
        pasteOverlaps();
        edges.finish("KeepingEdgesTest", 67, 73);
    }

    private static void due(int promise, String call, long got, long want) {
        edges.due(promise, call, got, want);
    }

    private static StarchGarrison one() {
        return Checks.told(Edges.head(3, 0, 0, 60, 0, 0) + Edges.man(30, 0, 20));
    }

    // ---- promise 67 ----

    private static void rate() {
        StarchGarrison x = one();
        due(67, "what it was", x.rate(0, 60), 20);
        due(67, "from now on", x.sags(0), 1);
        due(67, "what it was", x.rate(0, 1), 60);
        due(67, "from now on", x.stands(0), 1);
        due(67, "the same", x.rate(0, 1), 1);
        due(67, "just what he has", x.rate(0, 30), 1);
        due(67, "he STANDS", x.stands(2), 1);
        due(67, "one more", x.rate(0, 31), 30);
        due(67, "he SAGS", x.stands(2), 0);
        for (int n : new int[] {0, 61, -1, Integer.MIN_VALUE, Integer.MAX_VALUE, 257}) {
            due(67, "needs " + n, x.rate(0, n), -2);
        }
        due(67, "as it was", x.rate(0, 20), 31);
        due(67, "no such MAN", x.rate(1, 20), -2);
        due(67, "no MEN", Checks.told(Edges.head(3, 0, 0, 0, 0, 0)).rate(0, 1), -2);
        Checks.put(x, Edges.head(3, 0, 0, 0, 0, 0) + Edges.man(30, 0, 25));
        x.garrison();
        due(67, "as told anew", x.rate(0, 1), 25);
    }

    private static StarchGarrison acted() {
        StarchGarrison x = one();
        x.iron(0, 0);
        return x;
    }

    private static void rateWithActs() {
        edges.refused(67, "there were acts", KeepingEdgesTest::acted, x -> x.rate(0, 60), -5);
        edges.refused(67, "-2 ahead of -5, needs", KeepingEdgesTest::acted, x -> x.rate(0, 61), -2);
        edges.refused(67, "-2 ahead of -5, MAN", KeepingEdgesTest::acted, x -> x.rate(1, 60), -2);
        StarchGarrison x = acted();
        x.undo();
        due(67, "taken back", x.rate(0, 21), 20);
        x.iron(0, 0);
        due(67, "acts again", x.rate(0, 22), -5);
        x.anew();
        due(67, "all taken back", x.rate(0, 22), 21);
        x.starch(0, 0, 10);
        due(67, "a refused one is no act", x.rate(0, 23), 22);
    }

    // ---- promise 68 ----

    private static void count() {
        StarchGarrison x = Checks.told(Edges.six(24));
        int[] counts = {24, 3, 1, 60, 9, 5, 6, 0, 10, 0, 0};
        for (int what = 0; what < counts.length; what++) {
            due(68, "what " + what, x.count(what), counts[what]);
        }
        for (int what : new int[] {11, 12, -1, -2, Integer.MIN_VALUE, Integer.MAX_VALUE, 256}) {
            due(68, "what " + what, x.count(what), -1);
            due(68, "no GARRISON, what " + what, new StarchGarrison().count(what), -1);
        }
        for (int i = 1; i <= 30; i++) {
            x.iron(0, 0);
            due(68, "acts", x.count(7), i);
        }
        x.iron(0, 0);
        due(68, "acts at most", x.count(7), 30);
        x.starch(0, 0, 1);
        due(68, "packets as told", x.count(3), 60);
        for (int slot = 3; slot >= 0; slot--) {
            x.row(slot, 0, 0);
            due(68, "SLOTS that have a row", x.count(10), 4 - slot);
            x.row(slot, 3, 60);
            due(68, "in place of another", x.count(10), 4 - slot);
        }
        Checks.put(x, "x".repeat(800));
        due(68, "a full TAPE", x.count(9), 800);
        x.garrison();
        due(68, "it stays", x.count(9), 800);
        x.end(1);
        due(68, "one byte", x.count(9), 1);
        x.end(0);
        x.garrison();
        int[] none = {0, 0, 0, 0, 0, 0, 0, 0, 0, 0, 4};
        for (int what = 0; what < none.length; what++) {
            due(68, "no GARRISON any more, what " + what, x.count(what), none[what]);
        }
    }

    // ---- promises 69 and 70 ----

    private static void imageOfNone() {
        for (int k = 0; k < 3; k++) {
            StarchGarrison x = new StarchGarrison();
            due(70, "it has nothing", x.back(k), -6);
            due(69, "no GARRISON is kept", x.image(k), 0);
            Checks.put(x, Edges.six(24));
            x.garrison();
            x.iron(0, 0);
            due(70, "another has nothing", x.back((k + 1) % 3), -6);
            due(70, "all stays", x.count(7), 1);
            due(70, "back to none", x.back(k), 0);
            due(70, "there is none", x.frosts(), -2);
            due(70, "nor acts", x.count(7), 0);
        }
        edges.refused(70, "IMAGE 2 has nothing", Edges::full, x -> x.back(2), -6);
    }

    private static void imageIsItsOwn() {
        for (int k = 0; k < 3; k++) {
            StarchGarrison x = Checks.told(Edges.head(3, 2, 1, 9, 4, 7) + Edges.boiled(30, 2, 20) + Edges.rain(3, 0, 1) + Edges.heat(1, 1, 1)
                    + Edges.frost(2, 2));
            x.rate(0, 21);
            x.starch(0, 1, 2);
            due(69, "kept", x.image(k), 0);
            x.iron(0, 0);
            x.anew();
            x.rate(0, 5);
            Checks.put(x, Edges.six(24));
            x.garrison();
            for (int i = 0; i < 30; i++) {
                x.iron(5, 23);
            }
            due(70, "back", x.back(k), 0);
            int[] counts = {3, 2, 1, 9, 4, 7, 1, 1, 5};
            for (int what = 0; what < counts.length; what++) {
                due(70, "count " + what, x.count(what), counts[what]);
            }
            int[] told = {30, 2, 21, 1};
            for (int what = 0; what < 4; what++) {
                due(70, "man " + what, x.man(0, what), told[what]);
            }
            due(70, "RAIN", x.rain(1), 3);
            due(70, "HEAT", x.heat(1), 1);
            due(70, "FROST", x.frosts(), 4);
            due(70, "the act", x.stiff(0, 1), 47);
            due(70, "its PACKETS", x.stock(1), 7);
            due(70, "no MAN of the other", x.man(1, 0), -2);
            due(70, "its act is the latest", x.undo(), 0);
            due(70, "none more", x.undo(), -5);
            due(70, "back once more", x.back(k), 0);
            due(70, "the act is there", x.undo(), 0);
        }
    }

    private static void imageInPlace() {
        StarchGarrison x = one();
        x.image(1);
        x.iron(0, 0);
        due(69, "in place of the other", x.image(1), 0);
        x.anew();
        due(70, "the latest one", x.back(1), 0);
        due(70, "the act is there", x.count(7), 1);
        for (int i = 1; i < 30; i++) {
            x.iron(0, 2);
        }
        due(69, "30 acts", x.image(2), 0);
        x.anew();
        due(70, "back to 30 acts", x.back(2), 0);
        due(70, "all 30", x.count(7), 30);
        due(70, "a 31st", x.iron(0, 0), -5);
        due(70, "the first of them", x.stiff(0, 0), 37);
        due(70, "the others", x.stiff(0, 2), 99);
        due(70, "back to one act", x.back(1), 0);
        due(70, "IMAGE 1 is as it was", x.count(7), 1);
        due(70, "IMAGE 0 has nothing", x.back(0), -6);
    }

    private static void backLeaves() {
        StarchGarrison x = Edges.full();
        due(70, "back", x.back(1), 0);
        due(70, "the TAPE stays", x.count(9), 85);
        due(70, "rows stay", x.count(10), 3);
        due(70, "the FAULT stays", x.fault(1), 84);
        due(70, "the TAPE is as it was", x.end(84), 84);
        due(70, "and can be read", x.garrison(), 2);
        due(69, "IMAGES stay behind garrison()", x.back(0), 0);
        due(69, "MEN of IMAGE 0", x.count(6), 3);
        due(69, "searches are of what is now", x.hold(0), heldTo(x));
    }

    private static int heldTo(StarchGarrison x) {
        int falls = x.falls();
        return falls < 0 ? x.count(0) - 1 : falls - 1;
    }

    // ---- promises 71 and 72 ----

    private static void rowBounds() {
        for (int n : new int[] {61, 62, Integer.MAX_VALUE}) {
            edges.refused(71, "row of " + n, Edges::full, x -> x.row(0, 3, n), -2);
        }
        for (int n : new int[] {-1, -2, -61, Integer.MIN_VALUE}) {
            edges.refused(71, "row of " + n, Edges::full, x -> x.row(0, 3, n), -3);
            edges.refused(71, "row of " + n + ", the SLOT has nothing still", Edges::full, x -> x.row(2, 0, n), -3);
        }
        edges.refused(71, "-2 ahead of -3, SLOT", Edges::full, x -> x.row(4, 0, -1), -2);
        edges.refused(71, "-2 ahead of -3, WIDTH", Edges::full, x -> x.row(0, 4, -1), -2);
        edges.refused(71, "-2 ahead of -3, WIDTH -1", Edges::full, x -> x.row(0, -1, -1), -2);
        for (int n : new int[] {0, 1, 59, 60}) {
            StarchGarrison x = one();
            due(71, "row of " + n, x.row(2, 1, n), 0);
            due(71, "it has a row", x.count(10), 1);
            due(72, "the last of " + n, x.write(2, n - 1, 5), n == 0 ? -7 : 0);
            due(72, "behind the last of " + n, x.write(2, n, 5), -7);
        }
    }

    private static void rowInPlace() {
        StarchGarrison x = hourly();
        x.row(0, 0, 60);
        for (int i = 0; i < 60; i++) {
            x.write(0, i, 9);
        }
        due(71, "another in its place", x.row(0, 0, 60), 0);
        for (int i = 0; i < 60; i += 59) {
            due(71, "all 0, number " + i, has(x, 0, 0, i, 0), 1);
        }
        x.write(0, 5, 9);
        due(71, "fewer", x.row(0, 0, 5), 0);
        due(71, "no number 5", x.write(0, 5, 9), -7);
        due(71, "more", x.row(0, 0, 6), 0);
        due(71, "number 5 is 0", has(x, 0, 0, 5, 0), 1);
        due(71, "another WIDTH", x.row(0, 2, 6), 0);
        due(71, "then it is of it", x.paste(0, 0, 0, 0, 6), 0);
        x.row(1, 0, 6);
        due(71, "and of no other", x.paste(0, 0, 1, 0, 6), -8);
        due(71, "no numbers", x.row(0, 2, 0), 0);
        due(71, "it has a row", x.count(10), 3);
    }

    /** One MAN, less STIFF by 1 from HOUR to HOUR, so that HOURS are told apart by it. */
    private static StarchGarrison hourly() {
        return Checks.told(Edges.head(24, 0, 0, 0, 0, 0) + Edges.man(40, 1, 1));
    }

    /** 1, if number i of a SLOT's row is v (0 .. 23), seen as an HOUR by SLOT 3. */
    private static int has(StarchGarrison x, int slot, int width, int i, int v) {
        x.row(3, width, 3);
        x.write(3, 2, 40 - v);
        x.paste(slot, i, 3, 1, 1);
        return x.laws(3) > 0 ? 1 : 0;
    }

    private static void writeBounds() {
        for (int i : new int[] {-1, 6, 7, 60, 61, Integer.MIN_VALUE, Integer.MAX_VALUE}) {
            edges.refused(72, "number " + i + " of 6", Edges::full, x -> x.write(0, i, 1), -7);
        }
        edges.refused(72, "nothing", Edges::full, x -> x.write(2, 0, 1), -6);
        edges.refused(72, "-6 ahead of -7", Edges::full, x -> x.write(2, -1, 1), -6);
        edges.refused(72, "-2 ahead of all", Edges::full, x -> x.write(4, -1, 1), -2);
        StarchGarrison x = hourly();
        x.row(0, 3, 60);
        due(72, "the first", x.write(0, 0, 7), 0);
        due(72, "the last", x.write(0, 59, 8), 0);
        due(72, "is there", has(x, 0, 3, 0, 7), 1);
        due(72, "is there", has(x, 0, 3, 59, 8), 1);
        due(72, "the next is not", has(x, 0, 3, 1, 0), 1);
        due(72, "nor the one ahead", has(x, 0, 3, 58, 0), 1);
    }

    private static void writeCut() {
        for (int width = 0; width < 4; width++) {
            int bits = 8 << width;
            StarchGarrison x = hourly();
            x.row(0, width, 1);
            long[] values = {5, -1, Long.MIN_VALUE, Long.MAX_VALUE, 5L + (1L << 8), 5L + (1L << 16), 5L + (1L << 32), 5L - (1L << 8),
                5L - (1L << 16), 5L - (1L << 32), 5L + (1L << 62), 5L + (1L << 7), 5L + (1L << 15), 5L + (1L << 31)};
            for (long v : values) {
                due(72, v + " of WIDTH " + width, x.write(0, 0, v), 0);
                long cut = bits == 64 ? v : v & (1L << bits) - 1;
                due(72, v + " cut to WIDTH " + width + " is 5", has(x, 0, width, 0, 5), cut == 5 ? 1 : 0);
                due(72, v + " cut to WIDTH " + width + " is 0", has(x, 0, width, 0, 0), cut == 0 ? 1 : 0);
            }
        }
    }

    // ---- promise 73 ----

    private static void pasteRefused() {
        edges.refused(73, "of nothing", Edges::full, x -> x.paste(2, 0, 0, 0, 1), -6);
        edges.refused(73, "to nothing", Edges::full, x -> x.paste(0, 0, 2, 0, 1), -6);
        edges.refused(73, "nothing of nothing", Edges::full, x -> x.paste(2, 0, 2, 0, 0), -6);
        edges.refused(73, "not of one WIDTH", Edges::full, x -> x.paste(0, 0, 1, 0, 1), -8);
        edges.refused(73, "not of one WIDTH, no number", Edges::full, x -> x.paste(1, 0, 0, 0, 0), -8);
        edges.refused(73, "-2 ahead of -6", Edges::full, x -> x.paste(2, 0, 4, 0, 1), -2);
        edges.refused(73, "-2 ahead of -6, the other", Edges::full, x -> x.paste(-1, 0, 2, 0, 1), -2);
        edges.refused(73, "-2 ahead of -7", Edges::full, x -> x.paste(0, -1, 4, 0, 1), -2);
        edges.refused(73, "-6 ahead of -7", Edges::full, x -> x.paste(0, -1, 2, -1, -1), -6);
        edges.refused(73, "-8 ahead of -7", Edges::full, x -> x.paste(0, 9, 1, 9, 9), -8);
    }

    private static void pasteBeyond() {
        // SLOT 0 has 6 numbers, SLOT 3 has 3 of the same WIDTH.
        int[][] beyond = {{0, 0, 3, 0, 4}, {0, 0, 3, 1, 3}, {0, 4, 3, 0, 3}, {0, 6, 3, 0, 1}, {0, 0, 3, 3, 1}, {3, 0, 0, 0, 4},
            {3, 0, 0, 4, 3}, {3, 1, 0, 0, 3}, {0, -1, 3, 0, 1}, {0, 0, 3, -1, 1}, {0, 0, 3, 0, -1}, {0, 1, 3, 1, -1}, {0, 3, 0, 4, 3},
            {0, 4, 0, 3, 3}, {0, 0, 0, 0, 7}, {0, 0, 0, 0, -1}, {0, -1, 0, -1, 0}, {0, -1, 3, 0, 0}, {0, 0, 3, -1, 0},
            {0, Integer.MAX_VALUE, 3, 0, 1}, {0, 0, 3, Integer.MAX_VALUE, 1}, {0, 0, 3, 0, Integer.MAX_VALUE}, {0, 0, 3, 0, Integer.MIN_VALUE},
            {0, 1, 3, 1, Integer.MAX_VALUE}, {0, Integer.MAX_VALUE, 3, Integer.MAX_VALUE, Integer.MAX_VALUE},
            {0, Integer.MIN_VALUE, 3, 0, Integer.MIN_VALUE}, {0, 6, 3, 3, 1}};
        for (int[] c : beyond) {
            String call = "paste" + java.util.Arrays.toString(c);
            edges.refused(73, call, Edges::full, x -> x.paste(c[0], c[1], c[2], c[3], c[4]), -7);
        }
        int[][] within = {{0, 0, 3, 0, 3}, {0, 3, 3, 0, 3}, {3, 0, 0, 3, 3}, {0, 6, 3, 3, 0}, {0, 0, 3, 0, 0}, {0, 0, 0, 0, 6}, {0, 5, 0, 0, 1},
            {0, 0, 0, 5, 1}, {0, 6, 0, 6, 0}};
        for (int[] c : within) {
            due(73, "paste" + java.util.Arrays.toString(c), Edges.full().paste(c[0], c[1], c[2], c[3], c[4]), 0);
        }
        StarchGarrison none = hourly();
        none.row(0, 0, 0);
        none.row(1, 0, 0);
        due(73, "of no numbers", none.paste(0, 0, 1, 0, 0), 0);
        due(73, "one of no numbers", none.paste(0, 0, 1, 0, 1), -7);
    }

    private static void pasteWhole() {
        for (int width = 0; width < 4; width++) {
            StarchGarrison x = hourly();
            x.row(0, width, 60);
            x.row(1, width, 60);
            for (int i = 0; i < 60; i++) {
                x.write(0, i, i % 24);
            }
            due(73, "a whole row of WIDTH " + width, x.paste(0, 0, 1, 0, 60), 0);
            for (int i = 0; i < 60; i += 7) {
                due(73, "number " + i + " of WIDTH " + width, has(x, 1, width, i, i % 24), 1);
            }
            x.write(0, 7, 20);
            due(73, "a row of its own", has(x, 1, width, 7, 7), 1);
            due(73, "one number alone", x.paste(0, 7, 1, 59, 1), 0);
            due(73, "is there", has(x, 1, width, 59, 20), 1);
            due(73, "the one ahead is as it was", has(x, 1, width, 58, 58 % 24), 1);
            due(73, "none of them", x.paste(0, 7, 1, 3, 0), 0);
            due(73, "all are as they were", has(x, 1, width, 3, 3), 1);
        }
    }

    private static void pasteOverlaps() {
        int[][] moves = {{0, 1, 5}, {1, 0, 5}, {0, 3, 3}, {3, 0, 3}, {2, 3, 2}, {3, 2, 2}, {0, 0, 6}, {4, 4, 1}};
        for (int[] move : moves) {
            StarchGarrison x = hourly();
            x.row(0, 1, 6);
            int[] want = new int[6];
            for (int i = 0; i < 6; i++) {
                x.write(0, i, 10 + i);
                want[i] = 10 + i;
            }
            for (int i = 0; i < move[2]; i++) {
                want[move[1] + i] = 10 + move[0] + i;
            }
            due(73, "to its own", x.paste(0, move[0], 0, move[1], move[2]), 0);
            for (int i = 0; i < 6; i++) {
                due(73, "as they were, number " + i, has(x, 0, 1, i, want[i]), 1);
            }
        }
    }
}
