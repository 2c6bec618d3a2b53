/** Promises 1 to 9: each sentence that names a boundary case of the TAPE, of texts and of what was told. */
public final class TextEdgesTest {
    private static final String HEAD = Edges.head(4, 0, 0, 0, 0, 0);
    private static final String MAN = Edges.man(1, 1, 1);
    private static final Edges edges = new Edges();

    public static void main(String[] args) {
        newObject();
        feedOrder();
        feedFull();
        end();
        garrisonTakesThePlace();
        garrisonStays();
        headBounds();
        manBounds();
        weatherBounds();
        linesAtMost();
        firstFault();
        tokens();
        words();
        theEnd();
        fullTape();
        fault();
        man();
        rainAndHeat();
        frosts();
        edges.finish("TextEdgesTest", 1, 9);
    }

    // ---- promise 1 ----

    private static void newObject() {
        StarchGarrison x = new StarchGarrison();
        for (int what = 0; what <= 10; what++) {
            edges.due(1, "count(" + what + ")", x.count(what), 0);
        }
        for (int k = 0; k < 3; k++) {
            edges.due(1, "back(" + k + ")", x.back(k), -6);
        }
        for (int slot = 0; slot < 4; slot++) {
            edges.due(1, "write(" + slot + ")", x.write(slot, 0, 0), -6);
        }
        edges.due(1, "end(0)", x.end(0), 0);
        edges.due(1, "end(1)", x.end(1), -1);
        edges.due(1, "NONE", StarchGarrison.NONE, -1);
    }

    // ---- promises 2 and 3 ----

    /** Bytes are told apart by where the FAULT is: the one byte that is no TOKEN is put at each of the twenty places. */
    private static void feedOrder() {
        for (int place = 0; place < 20; place++) {
            int[] numbers = new int[5];
            for (int at = 0; at < 20; at++) {
                numbers[at / 4] = numbers[at / 4] << 8 | (at == place ? 0xff : 0x20);
            }
            StarchGarrison x = new StarchGarrison();
            edges.due(2, "feed", x.feed(numbers[0], numbers[1], numbers[2], numbers[3], numbers[4]), 20);
            edges.due(2, "garrison with byte " + place, x.garrison(), -4);
            edges.due(2, "place of byte " + place, x.fault(1), place);
        }
    }

    private static StarchGarrison withBytes(int n) {
        StarchGarrison x = new StarchGarrison();
        for (int i = 0; i < 40; i++) {
            x.feed(0x20202020, 0x20202020, 0x20202020, 0x20202020, 0x20202020);
        }
        x.end(n);
        return x;
    }

    private static void feedFull() {
        int[] bytes = {0, 1, 19, 20, 21, 779, 780, 781, 799, 800};
        for (int n : bytes) {
            StarchGarrison x = withBytes(n);
            boolean fits = n + 20 <= 800;
            edges.due(2, "feed behind " + n, x.feed(-1, -1, -1, -1, -1), fits ? n + 20 : -1);
            edges.due(2, "bytes behind " + n, x.count(9), fits ? n + 20 : n);
            edges.due(2, "garrison behind " + n, x.garrison(), fits ? -4 : 0);
            edges.due(2, "place behind " + n, x.fault(1), fits ? n : -1);
        }
        edges.refused(2, "feed of a full TAPE", () -> withBytes(800), x -> x.feed(1, 2, 3, 4, 5), -1);
        edges.refused(2, "feed of 781 bytes", () -> withBytes(781), x -> x.feed(1, 2, 3, 4, 5), -1);
    }

    private static void end() {
        for (int n : new int[] {0, 1, 20, 400, 799, 800}) {
            edges.due(3, "end(n) of n", withBytes(n).end(n), n);
            edges.due(3, "end(0) of n", withBytes(n).end(0), 0);
            StarchGarrison x = withBytes(n);
            edges.due(3, "end(n + 1) of " + n, x.end(n + 1), -1);
            edges.due(3, "end(-1) of " + n, x.end(-1), -1);
            edges.due(3, "end(least int)", x.end(Integer.MIN_VALUE), -1);
            edges.due(3, "end(greatest int)", x.end(Integer.MAX_VALUE), -1);
            edges.due(3, "nothing happens", x.count(9), n);
        }
        edges.refused(3, "end(-1)", Edges::full, x -> x.end(-1), -1);
        edges.refused(3, "end(86)", Edges::full, x -> x.end(86), -1);
        StarchGarrison x = new StarchGarrison();
        Checks.put(x, HEAD + "?");
        edges.due(3, "the first bytes alone", x.end(HEAD.length()), HEAD.length());
        edges.due(3, "the others are gone", x.end(HEAD.length() + 1), -1);
        edges.due(3, "what comes then comes behind the first", x.feed(0x3f202020, 0, 0, 0, 0), HEAD.length() + 20);
        edges.due(3, "its FAULT", x.garrison(), -4);
        edges.due(3, "is there", x.fault(1), HEAD.length());
        edges.due(3, "once more the first alone", x.end(HEAD.length()), HEAD.length());
        edges.due(3, "are as they were", x.garrison(), 1);
    }

    // ---- promise 4 ----

    private static void garrisonTakesThePlace() {
        StarchGarrison x = Checks.told(Edges.six(24));
        edges.due(4, "LINES", x.count(8), 10);
        edges.due(4, "TAPE is empty then", x.count(9), 0);
        x.iron(5, 23);
        Checks.put(x, Edges.head(1, 0, 0, 0, 0, 0) + MAN);
        edges.due(4, "another one", x.garrison(), 2);
        int[] counts = {1, 0, 0, 0, 0, 0, 1, 0, 2, 0, 0};
        for (int what = 0; what < counts.length; what++) {
            edges.due(4, "in its place, count(" + what + ")", x.count(what), counts[what]);
        }
        edges.due(4, "no RAIN of the other", x.rain(0), 0);
        edges.due(4, "no HEAT of the other", x.heat(0), 0);
        edges.due(4, "MAN 0 of this one", x.man(0, 0), 1);
        edges.due(4, "MAN 0 is not boiled", x.man(0, 3), 0);
        edges.due(4, "nothing done", x.undo(), -5);
        Checks.put(x, Edges.head(24, 0, 0, 0, 0, 0) + Edges.man(9, 0, 9) + Edges.man(9, 0, 9));
        x.garrison();
        edges.due(4, "MAN 1 is not boiled as the one ahead was", x.man(1, 3), 0);
        edges.due(4, "no FROST of the other", x.frosts(), 0);
        edges.due(4, "dry", x.dry(), (1 << 24) - 1);
        edges.due(4, "an empty TAPE", x.garrison(), 0);
        edges.due(4, "there is none then", x.frosts(), -2);
        edges.due(4, "nor MEN", x.count(6), 0);
        Checks.put(x, " \n \n\n ");
        edges.due(4, "blanks alone", x.garrison(), 0);
        edges.due(4, "TAPE is empty then", x.count(9), 0);
        StarchGarrison kept = Edges.full();
        kept.end(84);
        edges.due(4, "a new one", kept.garrison(), 2);
        edges.due(4, "rows stay", kept.count(10), 3);
        edges.due(4, "IMAGES stay", kept.back(0), 0);
        edges.due(4, "IMAGES stay as they were", kept.count(6), 3);
    }

    private static void garrisonStays() {
        edges.refused(4, "garrison() with a FAULT", Edges::full, x -> x.garrison(), -4);
        StarchGarrison x = Checks.told(HEAD + Edges.boiled(9, 8, 7));
        x.iron(0, 1);
        Checks.put(x, Edges.head(9, 1, 1, 1, 1, 1) + Edges.man(1, 2, 3) + Edges.rain(1, 0, 3) + Edges.heat(1, 0, 3)
                + Edges.frost(0, 3) + Edges.man(1, 2, 61));
        edges.due(4, "FAULT at the end", x.garrison(), -4);
        int[] counts = {4, 0, 0, 0, 0, 0, 1, 1, 2};
        for (int what = 0; what < counts.length; what++) {
            edges.due(4, "all stays, count(" + what + ")", x.count(what), counts[what]);
        }
        int[] told = {9, 8, 7, 1};
        for (int what = 0; what < 4; what++) {
            edges.due(4, "all stays, man(0, " + what + ")", x.man(0, what), told[what]);
        }
        edges.due(4, "all stays, RAIN", x.rain(0), 0);
        edges.due(4, "all stays, HEAT", x.heat(0), 0);
        edges.due(4, "all stays, FROST", x.frosts(), 0);
        edges.due(4, "all stays, the act", x.stiff(0, 1), 8);
        edges.due(4, "without GARRISON there is none still", faulty("garrison").frosts(), -2);
        edges.due(4, "nor LINES of the one refused", faulty(HEAD + MAN + "man").count(8), 0);
    }

    private static StarchGarrison faulty(String text) {
        StarchGarrison x = new StarchGarrison();
        Checks.put(x, text);
        edges.due(4, "garrison of " + text, x.garrison(), -4);
        return x;
    }

    private static void good(String text, int lines) {
        StarchGarrison x = new StarchGarrison();
        Checks.put(x, text);
        edges.due(4, "garrison of " + text, x.garrison(), lines);
        edges.due(5, "FAULT of " + text, x.fault(0), 0);
        edges.due(5, "place of " + text, x.fault(1), -1);
    }

    private static void bad(String text, int fault, int place) {
        StarchGarrison x = faulty(text);
        edges.due(5, "FAULT of " + text, x.fault(0), fault);
        edges.due(5, "place of " + text, x.fault(1), place);
        edges.due(4, "TAPE stays: " + text, x.count(9), text.length());
    }

    /** The number at # in a text may be from one to another and no other. */
    private static void bounds(String text, int low, int high) {
        int at = text.indexOf('#');
        int lines = text.split(";", -1).length - 1;
        good(text.replace("#", "" + low), lines);
        good(text.replace("#", "" + high), lines);
        good(text.replace("#", "000" + high), lines);
        bad(text.replace("#", "" + (high + 1)), 2, at);
        bad(text.replace("#", "4294967296"), 2, at);
        bad(text.replace("#", "9999999999999999999999999"), 2, at);
        bad(text.replace("#", "18446744073709551617"), 2, at);
        bad(text.replace("#", "-1"), 1, at);
        if (low > 0) {
            bad(text.replace("#", "" + (low - 1)), 2, at);
            bad(text.replace("#", "0"), 2, at);
        }
    }

    private static void headBounds() {
        String[] words = {"hours", "law", "gap", "packets", "weevils", "odds"};
        int[] low = {1, 0, 0, 0, 0, 0};
        int[] high = {24, 3, 3, 60, 9, 10};
        for (int i = 0; i < words.length; i++) {
            bounds(HEAD.replaceFirst(words[i] + " [0-9]+", words[i] + " #"), low[i], high[i]);
            StarchGarrison least = Checks.told(HEAD.replaceFirst(words[i] + " [0-9]+", words[i] + " " + low[i]));
            StarchGarrison greatest = Checks.told(HEAD.replaceFirst(words[i] + " [0-9]+", words[i] + " " + high[i]));
            edges.due(4, "least " + words[i], least.count(i), low[i]);
            edges.due(4, "greatest " + words[i], greatest.count(i), high[i]);
        }
    }

    private static void manBounds() {
        bounds(HEAD + "man stiff # sweat 5 needs 5;", 0, 99);
        bounds(HEAD + "man stiff 5 sweat # needs 5;", 0, 9);
        bounds(HEAD + "man stiff 5 sweat 5 needs #;", 1, 60);
        bounds(HEAD + "man stiff 5 sweat 5 needs # boiled;", 1, 60);
    }

    private static void weatherBounds() {
        bounds(HEAD + "rain # from 2 to 5;", 1, 9);
        bounds(HEAD + "heat # from 2 to 5;", 1, 3);
        for (String word : new String[] {"rain 1", "heat 1", "frost"}) {
            bounds(HEAD + word + " from # to 23;", 0, 23);
            bounds(HEAD + word + " from 0 to #;", 0, 23);
            bounds(HEAD + word + " from 7 to #;", 7, 23);
            bounds(HEAD + word + " from 23 to #;", 23, 23);
            bounds(HEAD + word + " from # to 7;", 0, 23, 7);
        }
    }

    /** As bounds, but a first number above the second one is the second one's FAULT. */
    private static void bounds(String text, int low, int high, int to) {
        int at = text.indexOf('#');
        good(text.replace("#", "" + to), 2);
        bad(text.replace("#", "" + (to + 1)), 2, at + text.substring(at).indexOf("" + to + ";"));
        bad(text.replace("#", "" + (high + 1)), 2, at);
        good(text.replace("#", "" + low), 2);
    }

    private static void linesAtMost() {
        String[] lines = {MAN, Edges.rain(1, 0, 0), Edges.heat(1, 0, 0), Edges.frost(0, 0)};
        int[] most = {6, 3, 3, 3};
        for (int i = 0; i < lines.length; i++) {
            String all = HEAD + lines[i].repeat(most[i]);
            good(all, 1 + most[i]);
            bad(all + lines[i], 3, all.length());
            bad(all + " \n" + lines[i], 3, all.length() + 2);
            bad(all + lines[i].replaceAll(" .*", ""), 3, all.length());
            bad(all + lines[i].replaceAll("[0-9]", "99"), 3, all.length());
            good(all + lines[(i + 1) % 4], 2 + most[i]);
        }
        String every = HEAD + lines[3].repeat(3) + lines[0].repeat(6) + lines[2].repeat(3) + lines[1].repeat(3);
        good(every, 16);
        for (String line : lines) {
            bad(every + line, 3, every.length());
        }
        bad(every + "boiled", 1, every.length());
        StarchGarrison x = Checks.told(every);
        Checks.put(x, every);
        edges.due(4, "as many in the next one", x.garrison(), 16);
        Checks.put(x, every + "man");
        edges.due(4, "one more", x.garrison(), -4);
        x.end(every.length());
        edges.due(4, "as many behind a FAULT", x.garrison(), 16);
    }

    private static void firstFault() {
        int at = HEAD.length();
        bad(HEAD + "man stiff 100 sweat 10 needs 61;", 2, at + 10);
        bad(HEAD + "man stiff ? sweat 10", 1, at + 10);
        bad(HEAD + "man stiff 100 ?", 2, at + 10);
        bad(HEAD + MAN.repeat(6) + "man ?", 3, at + 6 * MAN.length());
        bad(HEAD + "?" + MAN.repeat(7), 1, at);
        bad(HEAD + Edges.rain(9, 0, 0) + "rain 10 from 0 to 0;" + MAN.repeat(7), 2, at + Edges.rain(9, 0, 0).length() + 5);
        // Of one place the least: a 7th man's word, or a 4th frost's, where no such word can stand.
        bad(HEAD + MAN.repeat(6) + "rain man", 1, at + 6 * MAN.length() + 5);
        bad(HEAD + Edges.frost(0, 0).repeat(3) + "man frost", 1, at + 3 * Edges.frost(0, 0).length() + 4);
        bad(MAN.repeat(7), 1, 0);
        bad(HEAD + "garrison", 1, at);
        bad(HEAD + MAN + HEAD, 1, at + MAN.length());
        bad(HEAD + "man garrison", 1, at + 4);
        bad(MAN + HEAD, 1, 0);
        bad("hours 4", 1, 0);
        bad(";" + HEAD, 1, 0);
        bad("4" + HEAD, 1, 0);
        bad(HEAD + ";", 1, at);
        bad(HEAD + "5", 1, at);
    }

    private static void tokens() {
        good(HEAD.replace(" ", "\n"), 1);
        good(HEAD.replace(" ", "  \n \n"), 1);
        good(HEAD.replaceAll(" ([0-9])", "$1").replaceAll("([0-9]) ", "$1"), 1);
        good("  " + HEAD + "  " + MAN + "\n", 2);
        int[] none = {0, 1, 9, 11, 13, 31, 33, 47, 58, 60, 64, 65, 90, 91, 96, 123, 127, 128, 160, 255};
        for (int b : none) {
            bad(HEAD + (char) b, 1, HEAD.length());
            bad((char) b + HEAD, 1, 0);
            bad(HEAD.replace(" law", (char) b + " law"), 1, HEAD.indexOf(" law"));
        }
        // The longest: garrisonhours is one word, 4 0 are two numbers, 40 is one.
        bad(HEAD.replace("garrison hours", "garrisonhours"), 1, 0);
        bad(HEAD.replace("hours 4", "hours 4 0"), 1, 17);
        bad(HEAD.replace("hours 4", "hours 40"), 2, 15);
        bad(HEAD.replace("hours", "hour s"), 1, 9);
        bad(HEAD.replace("hours", "Hours"), 1, 9);
        bad(HEAD + "man stiff 1 sweat 1 needs 1 boil;", 1, HEAD.length() + 28);
        bad(HEAD + "man stiff 1 sweat 1 needs 1 boiled boiled;", 1, HEAD.length() + 35);
        bad(HEAD + "man stiff 1 sweat 1 needs 1 boiled 1;", 1, HEAD.length() + 35);
        good(HEAD + "man stiff1sweat1needs1boiled;", 2);
    }

    /** Each word with a letter more, a letter less or another letter is none that can stand there. */
    private static void words() {
        String text = HEAD + Edges.boiled(10, 9, 60) + Edges.rain(9, 10, 23) + Edges.heat(3, 0, 0) + Edges.frost(0, 23);
        int start = 0;
        for (int at = 0; at < text.length(); at++) {
            boolean letter = Character.isLetter(text.charAt(at));
            boolean begins = letter && (at == 0 || !Character.isLetter(text.charAt(at - 1)));
            start = begins ? at : start;
            if (letter) {
                char other = text.charAt(at) == 'z' ? 'a' : (char) (text.charAt(at) + 1);
                bad(text.substring(0, at) + other + text.substring(at + 1), 1, start);
                bad(text.substring(0, at) + text.substring(at + 1), 1, start);
                bad(text.substring(0, at + 1) + "z" + text.substring(at + 1), 1, start);
                bad(text.substring(0, at + 1) + "a" + text.substring(at + 1), 1, start);
            }
        }
    }

    /** A text cut behind any TOKEN: the end can't stand there, unless a LINE is over. */
    private static void theEnd() {
        String text = HEAD + Edges.boiled(10, 9, 60) + Edges.rain(9, 10, 23) + Edges.heat(3, 0, 0) + Edges.frost(0, 23);
        int lines = 0;
        for (int at = 1; at <= text.length(); at++) {
            char last = text.charAt(at - 1);
            boolean between = at == text.length() || text.charAt(at) == ' ' || text.charAt(at) == ';';
            if (last == ';') {
                lines++;
                good(text.substring(0, at), lines);
                good(text.substring(0, at) + "\n ", lines);
            } else if (last != ' ' && between) {
                bad(text.substring(0, at), 1, at);
                bad(text.substring(0, at) + " \n", 1, at + 2);
            }
        }
        StarchGarrison x = new StarchGarrison();
        Checks.put(x, HEAD + MAN);
        x.end(HEAD.length() + MAN.length() - 1);
        edges.due(4, "the ; that was cut is not read", x.garrison(), -4);
        edges.due(5, "the end's place", x.fault(1), HEAD.length() + MAN.length() - 1);
    }

    private static void fullTape() {
        String text = HEAD + MAN;
        String blanks = " ".repeat(800 - text.length());
        good(text + blanks, 2);
        good(blanks + text, 2);
        good(HEAD + blanks + MAN, 2);
        bad(blanks + text.substring(0, text.length() - 1) + "?", 1, 799);
        bad(text + blanks.substring(1) + "?", 1, 799);
        bad(text + blanks.substring(3) + "man", 1, 800);
        bad(blanks + text.substring(0, text.length() - 1) + "0", 1, 800);
        good(HEAD.replace("hours 4", "hours " + "0".repeat(800 - HEAD.length()) + "4"), 1);
        bad("a".repeat(800), 1, 0);
        bad("9".repeat(800), 1, 0);
        good(" ".repeat(800), 0);
    }

    // ---- promise 5 ----

    private static void fault() {
        StarchGarrison x = new StarchGarrison();
        int[] others = {2, 3, -1, Integer.MIN_VALUE, Integer.MAX_VALUE};
        edges.due(5, "ahead of any, what 0", x.fault(0), 0);
        edges.due(5, "ahead of any, what 1", x.fault(1), -1);
        for (int what : others) {
            edges.due(5, "ahead of any, what " + what, x.fault(what), -1);
        }
        Checks.put(x, HEAD + "man stiff 100");
        x.garrison();
        edges.due(5, "a FAULT", x.fault(0), 2);
        edges.due(5, "its place", x.fault(1), HEAD.length() + 10);
        for (int what : others) {
            edges.due(5, "with a FAULT, what " + what, x.fault(what), -1);
        }
        x.feed(0, 0, 0, 0, 0);
        x.end(HEAD.length());
        edges.due(5, "of the latest garrison() still", x.fault(0), 2);
        x.garrison();
        edges.due(5, "without", x.fault(0), 0);
        edges.due(5, "place without", x.fault(1), -1);
        for (int what : others) {
            edges.due(5, "without a FAULT, what " + what, x.fault(what), -1);
        }
        x.feed(-1, 0, 0, 0, 0);
        x.garrison();
        edges.due(5, "a FAULT at place 0", x.fault(1), 0);
        x.end(0);
        x.garrison();
        edges.due(5, "none of an empty TAPE", x.fault(0), 0);
        edges.due(5, "no place of an empty TAPE", x.fault(1), -1);
    }

    // ---- promises 6 to 9 ----

    private static void man() {
        StarchGarrison x = Checks.told(HEAD + Edges.man(0, 0, 1) + Edges.boiled(99, 9, 60) + MAN.repeat(3) + Edges.boiled(2, 3, 4));
        int[][] told = {{0, 0, 1, 0}, {99, 9, 60, 1}, {1, 1, 1, 0}, {1, 1, 1, 0}, {1, 1, 1, 0}, {2, 3, 4, 1}};
        for (int man = 0; man < 6; man++) {
            for (int what = 0; what < 4; what++) {
                edges.due(6, "man(" + man + ", " + what + ")", x.man(man, what), told[man][what]);
            }
            edges.due(6, "what 4", x.man(man, 4), -2);
            edges.due(6, "what -1", x.man(man, -1), -2);
        }
        edges.due(6, "a 7th MAN", x.man(6, 0), -2);
        edges.due(6, "MAN -1", x.man(-1, 0), -2);
        x.starch(0, 0, 1);
        x.iron(1, 0);
        edges.due(6, "as told, whatever is done", x.man(0, 0), 0);
    }

    private static void rainAndHeat() {
        StarchGarrison x = Checks.told(Edges.head(24, 0, 0, 0, 0, 0) + Edges.rain(9, 0, 23).repeat(2) + Edges.rain(9, 23, 23)
                + Edges.heat(3, 0, 0) + Edges.heat(3, 0, 1) + Edges.heat(3, 0, 2) + Edges.frost(0, 23));
        for (int hour = 0; hour < 24; hour++) {
            edges.due(7, "RAIN together at " + hour, x.rain(hour), hour == 23 ? 27 : 18);
            edges.due(8, "HEAT together at " + hour, x.heat(hour), Math.max(0, 9 - 3 * hour));
        }
        edges.due(7, "rain(24)", x.rain(24), -2);
        edges.due(8, "heat(24)", x.heat(24), -2);
        StarchGarrison one = Checks.told(Edges.head(1, 0, 0, 0, 0, 0) + Edges.rain(1, 1, 23) + Edges.heat(1, 1, 23));
        edges.due(7, "RAIN behind the HOURS", one.rain(0), 0);
        edges.due(7, "no such HOUR, though told", one.rain(1), -2);
        edges.due(8, "HEAT behind the HOURS", one.heat(0), 0);
        edges.due(8, "no such HOUR, though told", one.heat(1), -2);
        StarchGarrison part = Checks.told(Edges.head(5, 0, 0, 0, 0, 0) + Edges.rain(1, 1, 3) + Edges.heat(1, 2, 2));
        int[] rains = {0, 1, 1, 1, 0};
        int[] heats = {0, 0, 1, 0, 0};
        for (int hour = 0; hour < 5; hour++) {
            edges.due(7, "from 1 to 3 at " + hour, part.rain(hour), rains[hour]);
            edges.due(8, "from 2 to 2 at " + hour, part.heat(hour), heats[hour]);
        }
    }

    private static void frosts() {
        edges.due(9, "all of 24", Checks.told(Edges.head(24, 0, 0, 0, 0, 0) + Edges.frost(0, 23)).frosts(), (1 << 24) - 1);
        edges.due(9, "those of the HOURS alone", Checks.told(Edges.head(3, 0, 0, 0, 0, 0) + Edges.frost(0, 23)).frosts(), 7);
        edges.due(9, "behind the HOURS", Checks.told(Edges.head(3, 0, 0, 0, 0, 0) + Edges.frost(3, 23)).frosts(), 0);
        edges.due(9, "twice told", Checks.told(Edges.head(9, 0, 0, 0, 0, 0) + Edges.frost(1, 3) + Edges.frost(3, 5)).frosts(), 62);
        edges.due(9, "the last", Checks.told(Edges.head(24, 0, 0, 0, 0, 0) + Edges.frost(23, 23)).frosts(), 1 << 23);
        edges.due(9, "none", Checks.told(HEAD).frosts(), 0);
        edges.due(9, "no GARRISON", new StarchGarrison().frosts(), -2);
    }
}
