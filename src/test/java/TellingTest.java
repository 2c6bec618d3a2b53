/** Promises 1 to 9, 67 to 73: the TAPE, texts and their FAULTS, what was told, IMAGES, SLOTS. */
public final class TellingTest {
    private static final String HEAD = "garrison hours 4 law 0 gap 0 packets 0 weevils 0 odds 0;";
    private static final Checks checks = new Checks();

    public static void main(String[] args) {
        newObject();
        tape();
        goodTexts();
        faultsOfTheHead();
        faultsOfLines();
        tooManyLines();
        faultsStay();
        ends();
        whatWasTold();
        rates();
        images();
        rows();
        pastes();
        checks.finish("TellingTest");
    }

    private static void due(String call, long got, long want) {
        checks.due(call, got, want);
    }

    private static void newObject() {
        StarchGarrison x = new StarchGarrison();
        for (int what = 0; what <= 10; what++) {
            due("new count " + what, x.count(what), 0);
        }
        due("new count -1", x.count(-1), -1);
        due("new count 11", x.count(11), -1);
        due("new fault 0", x.fault(0), 0);
        due("new fault 1", x.fault(1), -1);
        due("new fault 2", x.fault(2), -1);
        due("new fault -1", x.fault(-1), -1);
        due("new frosts", x.frosts(), -2);
        due("new undo", x.undo(), -2);
        due("new anew", x.anew(), -2);
        due("new back", x.back(0), -6);
        due("new rate", x.rate(0, 1), -2);
        due("NONE", StarchGarrison.NONE, -1);
    }

    private static void tape() {
        StarchGarrison x = new StarchGarrison();
        for (int i = 1; i <= 40; i++) {
            due("feed " + i, x.feed(0x20202020, 0x0a0a0a0a, 0x20200a0a, 0x20202020, 0x20202020), 20 * i);
        }
        due("feed beyond", x.feed(0, 0, 0, 0, 0), -1);
        due("800 bytes", x.count(9), 800);
        due("end 801", x.end(801), -1);
        due("end -1", x.end(-1), -1);
        due("end min", x.end(Integer.MIN_VALUE), -1);
        due("end 800", x.end(800), 800);
        due("end 781", x.end(781), 781);
        due("feed no room", x.feed(0, 0, 0, 0, 0), -1);
        due("781 stay", x.count(9), 781);
        due("end 780", x.end(780), 780);
        due("feed fits", x.feed(0x3b202020, 0, 0, 0, 0), 800);
        due("end 782", x.end(782), 782);
        due("; is no LINE", x.garrison(), -4);
        due("its fault", x.fault(0), 1);
        due("its place", x.fault(1), 780);
        due("end 780", x.end(780), 780);
        due("blanks alone", x.garrison(), 0);
        due("no fault", x.fault(0), 0);
        due("no place", x.fault(1), -1);
        due("tape is empty", x.count(9), 0);
        due("end 0", x.end(0), 0);
        due("end 1", x.end(1), -1);
        x.feed(0x80000000, 0, 0, 0, 0);
        due("byte 128", x.garrison(), -4);
        due("its place", x.fault(1), 0);
    }

    private static void text(String text, int answer, int fault, int place) {
        StarchGarrison x = new StarchGarrison();
        Checks.put(x, text);
        due("garrison of " + text, x.garrison(), answer);
        due("fault of " + text, x.fault(0), fault);
        due("place of " + text, x.fault(1), place);
        due("bytes of " + text, x.count(9), answer < 0 ? text.length() : 0);
        due("lines of " + text, x.count(8), Math.max(0, answer));
    }

    private static void good(String text, int lines) {
        text(text, lines, 0, -1);
    }

    private static void bad(String text, int fault, int place) {
        text(text, -4, fault, place);
    }

    private static void goodTexts() {
        good("", 0);
        good("  \n \n", 0);
        good(HEAD, 1);
        good("\n garrison\nhours 24law3gap3packets60weevils9odds10;", 1);
        good("garrison hours 0001 law 00 gap 0 packets 00000000000000000060 weevils 0 odds 0 ;\n", 1);
        good(HEAD + "man stiff 0 sweat 0 needs 1;man stiff 99 sweat 9 needs 60 boiled;", 3);
        good(HEAD + "rain 1 from 0 to 0;rain 9 from 23 to 23;heat 1 from 0 to 23;heat 3 from 5 to 5;frost from 0 to 23;", 6);
    }

    private static void faultsOfTheHead() {
        bad("man stiff 1 sweat 1 needs 1;", 1, 0);
        bad(" garrisons hours 4", 1, 1);
        bad("garriso", 1, 0);
        bad("7", 1, 0);
        bad("garrison", 1, 8);
        bad("garrison  \n", 1, 11);
        bad("garrison hours ;", 1, 15);
        bad("garrison hours hours", 1, 15);
        bad("garrison law 0", 1, 9);
        bad("garrison hours 0 law", 2, 15);
        bad("garrison hours 25", 2, 15);
        bad("garrison hours 99999999999999999999", 2, 15);
        bad("garrison hours 4294967297", 2, 15);
        bad("garrison hours 1 law 4", 2, 21);
        bad("garrison hours 1 law 3 gap 4", 2, 27);
        bad("garrison hours 1 law 3 gap 3 packets 61", 2, 37);
        bad("garrison hours 1 law 3 gap 3 packets 60 weevils 10", 2, 48);
        bad("garrison hours 1 law 3 gap 3 packets 60 weevils 9 odds 11", 2, 55);
        bad("garrison hours 1 law 3 gap 3 packets 60 weevils 9 odds 10", 1, 57);
        bad("garrison hours 1 law 3 gap 3 packets 60 weevils 9 odds 10 hours", 1, 58);
        bad("Garrison", 1, 0);
        bad("garrisona", 1, 0);
        bad("garrisonz", 1, 0);
        bad("barrison", 1, 0);
        bad("{", 1, 0);
        bad("`", 1, 0);
        bad("garrison hours 1:", 1, 16);
        bad("garrison hours /", 1, 15);
        bad("garrison hours -1", 1, 15);
        bad("garrison\thours 1", 1, 8);
        bad("garrison\rhours 1", 1, 8);
        bad("garrison hours 1" + (char) 233, 1, 16);
        bad("garrison hours 1" + (char) 0, 1, 16);
    }

    private static void faultsOfLines() {
        int at = HEAD.length();
        bad(HEAD + HEAD, 1, at);
        bad(HEAD + ";", 1, at);
        bad(HEAD + "men", 1, at);
        bad(HEAD + "boiled", 1, at);
        bad(HEAD + "manstiff 1", 1, at);
        bad(HEAD + "man stiff 100", 2, at + 10);
        bad(HEAD + "man stiff 99 sweat 10", 2, at + 19);
        bad(HEAD + "man stiff 99 sweat 9 needs 0", 2, at + 27);
        bad(HEAD + "man stiff 99 sweat 9 needs 61 boiled;", 2, at + 27);
        bad(HEAD + "man stiff 99 sweat 9 needs 60 boiled boiled;", 1, at + 37);
        bad(HEAD + "man stiff 99 sweat 9 needs 60 boiled", 1, at + 36);
        bad(HEAD + "man stiff 99 sweat 9 needs 60 ", 1, at + 30);
        bad(HEAD + "man sweat 9", 1, at + 4);
        bad(HEAD + "rain from 0", 1, at + 5);
        bad(HEAD + "rain 0 from 0", 2, at + 5);
        bad(HEAD + "rain 10 from 0", 2, at + 5);
        bad(HEAD + "heat 0 from 0", 2, at + 5);
        bad(HEAD + "heat 4 from 0", 2, at + 5);
        bad(HEAD + "heat 3 from 24 to 24;", 2, at + 12);
        bad(HEAD + "heat 3 from 7 to 6;", 2, at + 17);
        bad(HEAD + "heat 3 from 7 to 24;", 2, at + 17);
        bad(HEAD + "heat 3 to 7", 1, at + 7);
        bad(HEAD + "frost 3 from 0", 1, at + 6);
        bad(HEAD + "frost from 7 to 6;", 2, at + 16);
        bad(HEAD + "frost from 6 from 7;", 1, at + 13);
        bad(HEAD + "frost from 6 to 7 ; ?", 1, at + 20);
        bad(HEAD + "frost from 6 to 7 boiled;", 1, at + 18);
    }

    private static void tooManyLines() {
        String man = "man stiff 1 sweat 1 needs 1;";
        String rain = "rain 1 from 0 to 1;";
        String heat = "heat 1 from 0 to 1;";
        String frost = "frost from 0 to 1;";
        int at = HEAD.length();
        good(HEAD + man.repeat(6) + rain.repeat(3) + heat.repeat(3) + frost.repeat(3), 16);
        bad(HEAD + man.repeat(7), 3, at + 6 * man.length());
        bad(HEAD + man.repeat(6) + " man ?", 3, at + 6 * man.length() + 1);
        bad(HEAD + rain.repeat(4), 3, at + 3 * rain.length());
        bad(HEAD + heat.repeat(4), 3, at + 3 * heat.length());
        bad(HEAD + frost.repeat(4), 3, at + 3 * frost.length());
        bad(HEAD + frost.repeat(3) + man.repeat(6) + "rain 0" + "man", 2, at + 3 * frost.length() + 6 * man.length() + 5);
        bad(HEAD + frost.repeat(3) + "man frost", 1, at + 3 * frost.length() + 4);
    }

    private static void faultsStay() {
        StarchGarrison x = Checks.told("garrison hours 4 law 0 gap 0 packets 7 weevils 0 odds 0; man stiff 9 sweat 0 needs 9;");
        x.iron(0, 0);
        Checks.put(x, "garrison hours 5 law 1 gap 1 packets 1 weevils 1 odds 1; man stiff 8 sweat 1 needs 100;");
        due("fault", x.garrison(), -4);
        due("hours stay", x.count(0), 4);
        due("packets stay", x.count(3), 7);
        due("stiff stays", x.man(0, 0), 9);
        due("acts stay", x.count(7), 1);
        due("tape stays", x.count(9), 87);
        due("fault again", x.garrison(), -4);
        due("end", x.end(56), 56);
        due("a head alone", x.garrison(), 1);
        due("hours", x.count(0), 5);
        due("men", x.count(6), 0);
        due("nothing done", x.count(7), 0);
        due("empty tape", x.garrison(), 0);
        due("no hours", x.count(0), 0);
        due("no garrison", x.frosts(), -2);
    }

    /** Bytes that were on the TAPE ahead of end() are not read, and a full TAPE is read to its last byte. */
    private static void ends() {
        String[] behind = {"0", "a", " ", ";"};
        String[] ahead = {HEAD + "man stiff 1", HEAD + "ma", HEAD + "man ", HEAD + "man stiff 1 sweat 1 needs 1"};
        int[] places = {HEAD.length() + 11, HEAD.length(), HEAD.length() + 4, HEAD.length() + 27};
        for (int i = 0; i < ahead.length; i++) {
            StarchGarrison x = new StarchGarrison();
            Checks.put(x, ahead[i] + behind[i].repeat(3));
            due("end", x.end(ahead[i].length()), ahead[i].length());
            due("cut: " + ahead[i], x.garrison(), -4);
            due("its fault", x.fault(0), 1);
            due("its place", x.fault(1), places[i]);
        }
        String blanks = " ".repeat(800 - HEAD.length());
        good(HEAD + blanks, 1);
        bad(HEAD + blanks.substring(1) + "9", 1, 799);
        bad(HEAD + blanks.substring(3) + "man", 1, 800);
        bad(HEAD + blanks.substring(11) + "man stiff 7", 1, 800);
        String man = "man stiff 0 sweat 0 needs 1;";
        good(HEAD + blanks.substring(man.length()) + man, 2);
    }

    private static void whatWasTold() {
        StarchGarrison x = Checks.told("garrison hours 6 law 3 gap 2 packets 50 weevils 8 odds 7;"
                + "man stiff 11 sweat 2 needs 33;man stiff 44 sweat 5 needs 6 boiled;"
                + "rain 4 from 1 to 3;rain 2 from 3 to 9;heat 1 from 0 to 2;heat 3 from 2 to 2;frost from 4 to 23;frost from 0 to 0;");
        int[] counts = {6, 3, 2, 50, 8, 7, 2, 0, 9, 0, 0};
        for (int what = 0; what < counts.length; what++) {
            due("count " + what, x.count(what), counts[what]);
        }
        int[][] men = {{11, 2, 33, 0}, {44, 5, 6, 1}};
        for (int man = 0; man < 2; man++) {
            for (int what = 0; what < 4; what++) {
                due("man " + man + " " + what, x.man(man, what), men[man][what]);
            }
        }
        due("man 2", x.man(2, 0), -2);
        due("man -1", x.man(-1, 0), -2);
        due("man what 4", x.man(0, 4), -2);
        due("man what -1", x.man(0, -1), -2);
        int[] rains = {0, 4, 4, 6, 2, 2, -2};
        int[] heats = {1, 1, 4, 0, 0, 0, -2};
        for (int hour = 0; hour <= 6; hour++) {
            due("rain " + hour, x.rain(hour), rains[hour]);
            due("heat " + hour, x.heat(hour), heats[hour]);
        }
        due("rain -1", x.rain(-1), -2);
        due("heat -1", x.heat(-1), -2);
        due("frosts", x.frosts(), 0b110001);
        due("dry", x.dry(), 0);
        due("frosts without", Checks.told(HEAD).frosts(), 0);
        due("dry always", Checks.told(HEAD).dry(), 15);
    }

    private static void rates() {
        StarchGarrison x = Checks.told(HEAD + "man stiff 30 sweat 0 needs 20;");
        due("rate", x.rate(0, 31), 20);
        due("needs", x.man(0, 2), 31);
        due("sags", x.sags(0), 1);
        due("rate 60", x.rate(0, 60), 31);
        due("rate 1", x.rate(0, 1), 60);
        due("rate 0", x.rate(0, 0), -2);
        due("rate 61", x.rate(0, 61), -2);
        due("rate man 1", x.rate(1, 5), -2);
        due("rate man -1", x.rate(-1, 5), -2);
        x.iron(0, 0);
        due("rate with acts", x.rate(0, 5), -5);
        due("-2 ahead of -5", x.rate(0, 61), -2);
        x.anew();
        due("rate anew", x.rate(0, 5), 1);
    }

    private static void images() {
        StarchGarrison x = new StarchGarrison();
        due("image of none", x.image(1), 0);
        Checks.put(x, HEAD + "man stiff 30 sweat 1 needs 20;frost from 3 to 3;rain 2 from 0 to 0;heat 1 from 1 to 1;");
        x.garrison();
        x.iron(0, 1);
        x.rate(0, 4);
        due("image 0", x.image(0), 0);
        due("image 3", x.image(3), -2);
        due("image -1", x.image(-1), -2);
        x.anew();
        x.rate(0, 5);
        due("image 2", x.image(2), 0);
        Checks.put(x, "garrison hours 9 law 3 gap 2 packets 8 weevils 1 odds 1;man stiff 1 sweat 9 needs 1 boiled;man stiff 2 sweat 2 needs 2;");
        x.garrison();
        x.starch(1, 2, 3);
        Checks.row(x, 0, 1, 2);
        Checks.put(x, "x");
        x.garrison();
        due("back 0", x.back(0), 0);
        int[] counts = {4, 0, 0, 0, 0, 0, 1, 1, 5, 1, 1};
        for (int what = 0; what < counts.length; what++) {
            due("back count " + what, x.count(what), counts[what]);
        }
        due("fault stays", x.fault(0), 1);
        due("back needs", x.man(0, 2), 20);
        due("back boiled", x.man(0, 3), 0);
        due("back sweat", x.man(0, 1), 1);
        due("back rain", x.rain(0), 2);
        due("back heat", x.heat(1), 1);
        due("back frosts", x.frosts(), 8);
        due("back stiff", x.stiff(0, 1), 34);
        x.undo();
        due("acts", x.count(7), 0);
        due("back 0 again", x.back(0), 0);
        due("image is its own", x.count(7), 1);
        due("back 2", x.back(2), 0);
        due("needs by rate", x.man(0, 2), 5);
        due("back 1", x.back(1), 0);
        due("none again", x.frosts(), -2);
        due("lines again", x.count(8), 0);
        due("back 3", x.back(3), -2);
        due("back -1", x.back(-1), -2);
        due("back nothing", new StarchGarrison().back(2), -6);
    }

    private static void rows() {
        StarchGarrison x = Checks.told(HEAD + "man stiff 50 sweat 0 needs 20;");
        due("row slot 4", x.row(4, 0, 1), -2);
        due("row slot -1", x.row(-1, 0, 1), -2);
        due("row width 4", x.row(0, 4, 1), -2);
        due("row width -1", x.row(0, -1, 1), -2);
        due("row 61", x.row(0, 0, 61), -2);
        due("row -1", x.row(0, 0, -1), -3);
        due("-2 ahead of -3", x.row(0, 4, -1), -2);
        due("no rows", x.count(10), 0);
        due("row 60", x.row(3, 0, 60), 0);
        due("row 0", x.row(0, 3, 0), 0);
        due("two rows", x.count(10), 2);
        due("write beyond", x.write(3, 60, 1), -7);
        due("write -1", x.write(3, -1, 1), -7);
        due("write nothing", x.write(1, 0, 1), -6);
        due("write slot", x.write(4, 0, 1), -2);
        due("write slot -1", x.write(-1, 0, 1), -2);
        long[] cut = {256L, 65536L, 1L << 32, 1L << 62};
        for (int width = 0; width < 4; width++) {
            x.row(0, width, 3);
            due("write man", x.write(0, 0, 0), 0);
            due("write hour", x.write(0, 1, 3), 0);
            due("write stiff", x.write(0, 2, cut[width] + 50), 0);
            due("cut to width " + width, x.laws(0), width == 3 ? -2 : 5);
            x.write(0, 2, width == 0 ? 178 : cut[width - 1] + 50);
            due("not cut by width " + width, x.laws(0), -2);
        }
        x.row(0, 0, 3);
        x.write(0, 2, 50);
        due("row refused stays", x.row(0, 0, -5), -3);
        due("as it was", x.laws(0), 15);
        x.row(0, 0, 3);
        due("anew all 0", x.laws(0), 0);
    }

    private static void pastes() {
        StarchGarrison x = Checks.told(HEAD + "man stiff 50 sweat 0 needs 20;");
        Checks.row(x, 0, 0, 1, 50, 0, 2, 51);
        Checks.row(x, 1, 0, 0, 0);
        due("stiff 0", x.laws(1), 0);
        due("paste", x.paste(0, 0, 1, 0, 3), 0);
        due("stiff 50", x.laws(1), 5);
        due("paste from the end", x.paste(0, 3, 1, 0, 3), 0);
        due("stiff 51", x.laws(1), 0);
        due("paste none", x.paste(0, 6, 1, 3, 0), 0);
        due("paste beyond source", x.paste(0, 4, 1, 0, 3), -7);
        due("paste beyond target", x.paste(0, 0, 1, 1, 3), -7);
        due("paste from -1", x.paste(0, -1, 1, 0, 1), -7);
        due("paste to -1", x.paste(0, 0, 1, -1, 1), -7);
        due("paste -1", x.paste(0, 0, 1, 0, -1), -7);
        due("paste much", x.paste(0, Integer.MAX_VALUE, 1, 0, Integer.MAX_VALUE), -7);
        due("nothing happened", x.laws(1), 0);
        due("paste slot", x.paste(4, 0, 1, 0, 1), -2);
        due("paste slot -1", x.paste(0, 0, -1, 0, 1), -2);
        due("paste nothing", x.paste(0, 0, 2, 0, 1), -6);
        due("paste of nothing", x.paste(2, 0, 0, 0, 1), -6);
        due("-2 ahead of -6", x.paste(2, 0, 4, 0, 1), -2);
        x.row(3, 2, 6);
        due("paste widths", x.paste(0, 0, 3, 0, 1), -8);
        due("-8 ahead of -7", x.paste(0, 9, 3, 0, 1), -8);
        due("-6 ahead of -8 and -7", x.paste(3, -1, 2, 0, 1), -6);
        overlaps();
    }

    private static void overlaps() {
        StarchGarrison x = Checks.told("garrison hours 24 law 0 gap 0 packets 0 weevils 0 odds 0;man stiff 20 sweat 1 needs 20;");
        Checks.row(x, 0, 0, 20, 0, 10, 10, 7);
        due("moved on by one", x.paste(0, 0, 0, 1, 5), 0);
        due("0 0 20 0 10 10", x.laws(0), 5);
        Checks.row(x, 0, 7, 0, 0, 20, 0, 10);
        due("moved ahead by one", x.paste(0, 1, 0, 0, 5), 0);
        due("0 0 20 0 10 10", x.laws(0), 5);
    }
}
