/** Promises 10 to 36: each sentence that names a boundary case of the siege as now and of what would be otherwise. */
public final class SiegeEdgesTest {
    private static final int DAY = (1 << 24) - 1;
    private static final Edges edges = new Edges();

    public static void main(String[] args) {
        stiffBounds();
        stiffFrost();
        losesByStiff();
        losesByRain();
        losesByNeighbours();
        standsAndSags();
        givesAndHours();
        cracksAndBroken();
        gapHoldsFalls();
        weakestAndStiffest();
        allAndSpare();
        spell();
        rises();
        lost();
        dry();
        drummer();
        bears();
        boil();
        gain();
        helps();
        stocks();
        withThirtyActs();
        edges.finish("SiegeEdgesTest", 10, 36);
    }

    private static void due(int promise, String call, long got, long want) {
        edges.due(promise, call, got, want);
    }

    private static String hours(int hours) {
        return Edges.head(hours, 0, 0, 60, 0, 0);
    }

    private static String law(int law) {
        return Edges.head(1, law, 0, 60, 0, 0);
    }

    private static StarchGarrison one(int hours, int stiff, int sweat, int needs) {
        return Checks.told(hours(hours) + Edges.man(stiff, sweat, needs));
    }

    private static void stiffs(String call, StarchGarrison x, int man, int... want) {
        for (int hour = 0; hour < want.length; hour++) {
            due(10, call + ", stiff(" + man + ", " + hour + ")", x.stiff(man, hour), want[hour]);
        }
        due(10, call + ", no HOUR more", x.stiff(man, want.length), -2);
    }

    // ---- promise 10 ----

    private static void stiffBounds() {
        stiffs("0 at least", one(3, 5, 9, 1), 0, 5, 0, 0);
        stiffs("just 0", one(3, 9, 9, 1), 0, 9, 0, 0);
        stiffs("just above 0", one(3, 10, 9, 1), 0, 10, 1, 0);
        stiffs("one HOUR", one(1, 0, 9, 60), 0, 0);
        StarchGarrison day = one(24, 99, 4, 1);
        for (int hour = 0; hour < 24; hour++) {
            due(10, "a day, HOUR " + hour, day.stiff(0, hour), 99 - 4 * hour);
        }
        int[][] cut = {{92, 99}, {93, 99}, {91, 98}, {99, 99}};
        for (int[] told : cut) {
            StarchGarrison x = one(2, told[0], 9, 1);
            due(10, "99 at most, ironed", x.iron(0, 0), told[1]);
            stiffs("and 9 less than that", x, 0, told[1], told[1] - 9);
        }
        StarchGarrison much = one(2, 9, 9, 1);
        much.starch(0, 0, 9);
        stiffs("9 PACKETS are 90", much, 0, 99, 90);
        much.starch(0, 0, 9);
        much.starch(0, 1, 9);
        stiffs("99 at most at each HOUR", much, 0, 99, 99);
        StarchGarrison late = one(3, 30, 0, 1);
        late.starch(0, 2, 1);
        stiffs("at its HOUR, not ahead of it", late, 0, 30, 30, 40);
        StarchGarrison risen = one(3, 0, 9, 1);
        risen.iron(0, 1);
        stiffs("0 at least ahead of the acts", risen, 0, 0, 7, 0);
    }

    private static void stiffFrost() {
        stiffs("70 at FROST", Checks.told(hours(2) + Edges.man(70, 0, 1) + Edges.frost(0, 0)), 0, 70, 70);
        stiffs("71 at FROST", Checks.told(hours(2) + Edges.man(71, 0, 1) + Edges.frost(0, 0)), 0, 0, 0);
        stiffs("71 without", Checks.told(hours(2) + Edges.man(71, 0, 1) + Edges.frost(2, 23)), 0, 71, 71);
        stiffs("70 by what he loses", Checks.told(hours(3) + Edges.man(75, 5, 1) + Edges.frost(1, 1)), 0, 75, 70, 65);
        stiffs("71 by what he loses", Checks.told(hours(3) + Edges.man(76, 5, 1) + Edges.frost(1, 1)), 0, 76, 0, 0);
        stiffs("at the last HOUR", Checks.told(hours(3) + Edges.man(99, 0, 1) + Edges.frost(2, 2)), 0, 99, 99, 0);
        StarchGarrison ironed = Checks.told(hours(3) + Edges.man(63, 0, 1) + Edges.man(64, 0, 1) + Edges.frost(1, 1));
        ironed.iron(0, 1);
        ironed.iron(1, 1);
        stiffs("70 by ironing", ironed, 0, 63, 70, 70);
        stiffs("71 by ironing", ironed, 1, 64, 0, 0);
        StarchGarrison early = Checks.told(hours(3) + Edges.man(61, 0, 1) + Edges.frost(1, 1));
        early.starch(0, 0, 1);
        stiffs("starched ahead of FROST", early, 0, 71, 0, 0);
        early.starch(0, 2, 9);
        early.iron(0, 1);
        stiffs("whatever is done", early, 0, 71, 0, 0);
        early.anew();
        stiffs("all taken back", early, 0, 61, 61, 61);
    }

    // ---- promise 11 ----

    private static void losesByStiff() {
        int[][] tenths = {{0, 0}, {9, 0}, {10, 1}, {19, 1}, {20, 2}, {98, 9}, {99, 9}};
        for (int[] tenth : tenths) {
            for (int law = 0; law < 4; law++) {
                int more = law % 2 == 1 ? tenth[1] : 0;
                StarchGarrison x = Checks.told(law(law) + Edges.man(tenth[0], 3, 1));
                due(11, "by LAW " + law + " at " + tenth[0], x.loses(0, 0), 3 + more);
            }
        }
        StarchGarrison x = Checks.told(law(1) + Edges.man(35, 0, 1));
        x.iron(0, 0);
        due(11, "a tenth behind the acts", x.loses(0, 0), 4);
        due(11, "though he has not so much", one(2, 0, 9, 1).loses(0, 0), 9);
        due(11, "at the last HOUR, too", one(24, 9, 9, 1).loses(0, 23), 9);
        due(11, "no sweat", one(1, 9, 0, 1).loses(0, 0), 0);
        StarchGarrison cracked = Checks.told(law(3) + Edges.man(99, 5, 1) + Edges.heat(3, 0, 0) + Edges.frost(0, 0));
        due(11, "one who cracked", cracked.loses(0, 0), 20);
    }

    private static void losesByRain() {
        int[] rains = {1, 2, 3, 9};
        for (int rain : rains) {
            StarchGarrison x = Checks.told(law(0) + Edges.man(50, 1, 1) + Edges.boiled(50, 1, 1) + Edges.rain(rain, 0, 0));
            due(11, "RAIN " + rain, x.loses(0, 0), 1 + rain);
            due(11, "half of RAIN " + rain, x.loses(1, 0), 1 + rain / 2);
        }
        StarchGarrison twice = Checks.told(law(0) + Edges.boiled(50, 1, 1) + Edges.rain(1, 0, 0).repeat(2));
        due(11, "half of 1 and 1 together", twice.loses(0, 0), 2);
        StarchGarrison thrice = Checks.told(law(0) + Edges.boiled(50, 1, 1) + Edges.man(50, 1, 1) + Edges.rain(9, 0, 0).repeat(3));
        due(11, "half of 27, cut", thrice.loses(0, 0), 14);
        due(11, "27 of it", thrice.loses(1, 0), 28);
        StarchGarrison frost = Checks.told(hours(2) + Edges.man(50, 1, 1) + Edges.boiled(50, 1, 1) + Edges.rain(9, 0, 1)
                + Edges.frost(1, 1));
        due(11, "RAIN ahead of FROST", frost.loses(0, 0), 10);
        due(11, "none at FROST", frost.loses(0, 1), 1);
        due(11, "nor half", frost.loses(1, 1), 1);
        StarchGarrison heat = Checks.told(law(0) + Edges.man(50, 9, 1) + Edges.heat(3, 0, 0).repeat(3) + Edges.rain(2, 0, 0));
        due(11, "sweat times 1 and 9, RAIN once", heat.loses(0, 0), 92);
    }

    private static void losesByNeighbours() {
        String sags = Edges.man(0, 3, 1);
        String stands = Edges.man(50, 4, 50);
        String weather = Edges.heat(2, 0, 0) + Edges.rain(3, 0, 0);
        for (int law = 0; law < 4; law++) {
            boolean twice = law >= 2;
            int tenth = law % 2 == 1 ? 5 : 0;
            StarchGarrison x = Checks.told(law(law) + sags + stands + stands + stands + sags + weather);
            due(11, "he SAGS, the one beside does not", x.loses(0, 0), 9 + 3);
            due(11, "one beside SAGS", x.loses(1, 0), (twice ? 24 : 12) + 3 + tenth);
            due(11, "none beside SAGS", x.loses(2, 0), 12 + 3 + tenth);
            due(11, "the one behind SAGS", x.loses(3, 0), (twice ? 24 : 12) + 3 + tenth);
            StarchGarrison between = Checks.told(law(law) + sags + stands + sags);
            due(11, "both beside SAG: twice, no more", between.loses(1, 0), (twice ? 8 : 4) + tenth);
            StarchGarrison middle = Checks.told(law(law) + stands + stands + sags + stands + stands + sags);
            int[] pressed = {0, 1, 0, 1, 1, 0};
            for (int man = 0; man < 6; man++) {
                boolean himself = man == 2 || man == 5;
                int sweat = himself ? 3 : (twice ? 4 + 4 * pressed[man] : 4) + tenth;
                due(11, "one in the middle SAGS, MAN " + man, middle.loses(man, 0), sweat);
            }
            StarchGarrison ends = Checks.told(law(law) + stands + stands + sags);
            due(11, "the first is not beside the last", ends.loses(0, 0), 4 + tenth);
            due(11, "one alone has none beside", Checks.told(law(law) + sags).loses(0, 0), 3);
            StarchGarrison both = Checks.told(law(law) + sags + sags);
            due(11, "both SAG", both.loses(0, 0), twice ? 6 : 3);
            StarchGarrison cracked = Checks.told(law(law) + Edges.man(99, 0, 1) + stands + Edges.frost(0, 0));
            due(11, "one who cracked SAGS", cracked.loses(1, 0), (twice ? 8 : 4) + tenth);
        }
    }

    // ---- promises 12 to 16, 24 ----

    private static void standsAndSags() {
        StarchGarrison x = Checks.told(hours(1) + Edges.man(30, 0, 30) + Edges.man(29, 0, 30) + Edges.man(31, 0, 30)
                + Edges.man(0, 0, 1) + Edges.man(1, 0, 1) + Edges.man(60, 0, 60));
        due(12, "as much as he needs at least", x.stands(0), 0b110101);
        due(24, "else he SAGS", x.sags(0), 0b001010);
        due(12, "all six", Checks.told(hours(1) + Edges.man(1, 0, 1).repeat(6)).stands(0), 63);
        due(12, "none of six", Checks.told(hours(1) + Edges.man(0, 0, 1).repeat(6)).stands(0), 0);
        due(24, "none of six", Checks.told(hours(1) + Edges.man(1, 0, 1).repeat(6)).sags(0), 0);
        due(24, "all six", Checks.told(hours(1) + Edges.man(0, 0, 1).repeat(6)).sags(0), 63);
        due(12, "no MEN", Checks.told(hours(1)).stands(0), 0);
        due(24, "no MEN", Checks.told(hours(1)).sags(0), 0);
        due(12, "the last of 24", one(24, 24, 1, 1).stands(23), 1);
        due(24, "the last of 24", one(24, 23, 1, 1).sags(23), 1);
        due(24, "not ahead of it", one(24, 23, 1, 1).sags(22), 0);
    }

    private static void givesAndHours() {
        due(13, "at HOUR 0", one(24, 0, 0, 1).gives(0), 0);
        due(13, "at the last HOUR", one(24, 23, 1, 1).gives(0), 23);
        due(13, "at none", one(24, 24, 1, 1).gives(0), -1);
        due(13, "at none of one", one(1, 1, 9, 1).gives(0), -1);
        StarchGarrison x = one(4, 1, 1, 1);
        x.iron(0, 2);
        due(13, "the first, though he STANDS later", x.gives(0), 1);
        due(13, "as he CRACKS", Checks.told(hours(4) + Edges.man(99, 0, 1) + Edges.frost(2, 3)).gives(0), 2);
        due(14, "at none", one(24, 0, 0, 1).hours(0), 0);
        due(14, "at all but one", one(24, 23, 1, 1).hours(0), 23);
        due(14, "at all", one(24, 24, 1, 1).hours(0), 24);
        due(14, "at one of one", one(1, 1, 9, 1).hours(0), 1);
        due(14, "SAGS in between", x.hours(0), 3);
    }

    private static void cracksAndBroken() {
        due(15, "at HOUR 0", Checks.told(hours(4) + Edges.man(71, 0, 1) + Edges.frost(0, 3)).cracks(0), 0);
        due(15, "at the last HOUR", Checks.told(hours(24) + Edges.man(99, 0, 1) + Edges.frost(23, 23)).cracks(0), 23);
        due(15, "at none, 70", Checks.told(hours(4) + Edges.man(70, 0, 1) + Edges.frost(0, 3)).cracks(0), -1);
        due(15, "at none, no FROST within the HOURS", Checks.told(hours(4) + Edges.man(99, 0, 1) + Edges.frost(4, 23)).cracks(0), -1);
        StarchGarrison x = Checks.told(hours(4) + Edges.man(71, 0, 1) + Edges.frost(0, 0) + Edges.frost(2, 2));
        x.starch(0, 2, 9);
        due(15, "once, whatever is done", x.cracks(0), 0);
        StarchGarrison six = Checks.told(hours(4) + Edges.man(71, 0, 1).repeat(5) + Edges.man(70, 0, 1) + Edges.frost(3, 3));
        due(16, "five of six", six.broken(), 31);
        six.iron(5, 1);
        due(16, "all six", six.broken(), 63);
        due(15, "the sixth", six.cracks(5), 3);
        due(16, "none", one(4, 99, 0, 1).broken(), 0);
        due(16, "no MEN", Checks.told(hours(4) + Edges.frost(0, 3)).broken(), 0);
    }

    // ---- promises 17 to 19 ----

    private static String line(String pattern) {
        StringBuilder text = new StringBuilder();
        for (char sign : pattern.toCharArray()) {
            text.append(sign == 'x' ? Edges.man(0, 0, 1) : Edges.man(1, 0, 1));
        }
        return text.toString();
    }

    private static void gapHoldsFalls() {
        String[] patterns = {"", "o", "x", "oooooo", "xxxxxx", "xoxoxo", "xxoxxx", "xxxoxx", "oxxxxo", "xoooox", "xxoxxo", "oxoxxo"};
        int[] widest = {0, 0, 1, 0, 6, 1, 3, 3, 4, 1, 2, 2};
        for (int i = 0; i < patterns.length; i++) {
            for (int gap = 0; gap <= 3; gap++) {
                StarchGarrison x = Checks.told(Edges.head(2, 0, gap, 0, 0, 0) + line(patterns[i]));
                boolean held = widest[i] <= gap;
                due(17, "gap of " + patterns[i], x.gap(1), widest[i]);
                due(18, "holds of " + patterns[i] + " with gap " + gap, x.holds(), held ? 3 : 0);
                due(19, "falls of " + patterns[i] + " with gap " + gap, x.falls(), held ? -1 : 0);
            }
        }
        due(18, "all of 24", one(24, 24, 1, 1).holds(), DAY);
        due(18, "all but the last", one(24, 23, 1, 1).holds(), DAY >> 1);
        due(19, "at the last", one(24, 23, 1, 1).falls(), 23);
        due(19, "at none", one(24, 24, 1, 1).falls(), -1);
        StarchGarrison x = one(4, 1, 1, 1);
        x.iron(0, 2);
        due(18, "once more behind", x.holds(), 0b1101);
        due(19, "the first", x.falls(), 1);
        due(18, "one HOUR", one(1, 1, 0, 1).holds(), 1);
        due(18, "no MEN", Checks.told(hours(24)).holds(), DAY);
        due(19, "no MEN", Checks.told(hours(24)).falls(), -1);
    }

    // ---- promises 20 to 23 ----

    private static void weakestAndStiffest() {
        StarchGarrison x = Checks.told(hours(1) + Edges.man(5, 0, 1) + Edges.man(3, 0, 1) + Edges.man(9, 0, 1) + Edges.man(3, 0, 1)
                + Edges.man(9, 0, 1) + Edges.man(4, 0, 1));
        due(20, "the first of several", x.weakest(0), 1);
        due(23, "the first of several", x.stiffest(0), 2);
        StarchGarrison last = Checks.told(hours(1) + Edges.man(5, 0, 1).repeat(5) + Edges.man(4, 0, 1));
        due(20, "the last MAN", last.weakest(0), 5);
        due(23, "the first of five", last.stiffest(0), 0);
        StarchGarrison other = Checks.told(hours(1) + Edges.man(5, 0, 1).repeat(5) + Edges.man(6, 0, 1));
        due(20, "the first of five", other.weakest(0), 0);
        due(23, "the last MAN", other.stiffest(0), 5);
        due(20, "one alone", one(1, 0, 0, 1).weakest(0), 0);
        due(23, "one alone, 0", one(1, 0, 0, 1).stiffest(0), 0);
        due(20, "no MEN", Checks.told(hours(24)).weakest(23), -1);
        due(23, "no MEN", Checks.told(hours(24)).stiffest(23), -1);
        due(20, "no MEN, no such HOUR", Checks.told(hours(23)).weakest(23), -2);
        due(23, "no MEN, no such HOUR", Checks.told(hours(23)).stiffest(23), -2);
        StarchGarrison cracked = Checks.told(hours(1) + Edges.man(0, 0, 1) + Edges.man(99, 0, 1) + Edges.frost(0, 0));
        due(23, "one who cracked is 0", cracked.stiffest(0), 0);
    }

    private static void allAndSpare() {
        due(21, "six of 99", Checks.told(hours(24) + Edges.man(99, 0, 1).repeat(6)).all(23), 594);
        due(21, "six of 0", Checks.told(hours(24) + Edges.man(0, 0, 1).repeat(6)).all(23), 0);
        due(21, "no MEN", Checks.told(hours(24)).all(23), 0);
        due(22, "below 0", one(1, 0, 0, 60).spare(0, 0), -60);
        due(22, "-1", one(1, 59, 0, 60).spare(0, 0), -1);
        due(22, "none", one(1, 60, 0, 60).spare(0, 0), 0);
        due(22, "much", one(1, 99, 0, 1).spare(0, 0), 98);
        due(22, "-2 is no refusal", one(1, 58, 0, 60).spare(0, 0), -2);
        due(22, "no MEN", Checks.told(hours(24)).spare(0, 0), -1000);
    }

    // ---- promises 25 to 30 ----

    private static void spell() {
        due(25, "none", one(24, 0, 0, 1).spell(), 0);
        due(25, "all", one(24, 1, 0, 1).spell(), 24);
        due(25, "one of one", one(1, 1, 0, 1).spell(), 1);
        due(25, "the last HOUR alone is not held", one(24, 23, 1, 1).spell(), 23);
        due(25, "no MEN", Checks.told(hours(24)).spell(), 24);
        StarchGarrison x = one(9, 1, 1, 1);
        x.iron(0, 2);
        due(25, "1 then 7", x.spell(), 7);
        StarchGarrison first = one(6, 3, 1, 1);
        first.starch(0, 4, 1);
        due(25, "3 then 2", first.spell(), 3);
        StarchGarrison middle = one(7, 0, 5, 1);
        middle.starch(0, 2, 1);
        middle.iron(0, 6);
        due(25, "the one in the middle", middle.spell(), 2);
    }

    private static void rises() {
        due(26, "one HOUR", one(1, 1, 0, 1).rises(0), 0);
        due(26, "never SAGGED", one(24, 1, 0, 1).rises(0), 0);
        due(26, "never STANDS", one(24, 0, 0, 1).rises(0), 0);
        StarchGarrison x = one(24, 0, 9, 1);
        for (int hour = 1; hour < 24; hour += 2) {
            x.iron(0, hour);
        }
        due(26, "at every other HOUR", x.rises(0), 12);
        StarchGarrison last = one(24, 0, 9, 1);
        last.iron(0, 23);
        due(26, "at the last HOUR", last.rises(0), 1);
        StarchGarrison first = one(24, 0, 0, 1);
        first.iron(0, 0);
        due(26, "at HOUR 0 there is none ahead", first.rises(0), 0);
    }

    private static void lost() {
        due(27, "one HOUR", one(1, 50, 9, 1).lost(0), 0);
        due(27, "two", one(2, 50, 9, 1).lost(0), 9);
        due(27, "no more than he has", one(3, 7, 5, 1).lost(0), 7);
        due(27, "he has nothing", one(24, 0, 9, 1).lost(0), 0);
        due(27, "all 23 times", one(24, 99, 4, 1).lost(0), 92);
        StarchGarrison cracked = Checks.told(hours(4) + Edges.man(81, 5, 1) + Edges.frost(2, 2));
        due(27, "cracking aside", cracked.lost(0), 10);
        StarchGarrison x = one(3, 5, 9, 1);
        x.starch(0, 1, 1);
        due(27, "what acts gave he can lose", x.lost(0), 5 + 9);
        StarchGarrison rain = Checks.told(Edges.head(2, 1, 0, 0, 0, 0) + Edges.man(50, 1, 1) + Edges.rain(3, 0, 0));
        due(27, "by LAW and RAIN", rain.lost(0), 1 + 5 + 3);
    }

    private static void dry() {
        due(28, "all of 24", Checks.told(hours(24)).dry(), DAY);
        due(28, "none, by RAIN", Checks.told(hours(24) + Edges.rain(1, 0, 23)).dry(), 0);
        due(28, "none, by FROST", Checks.told(hours(24) + Edges.frost(0, 23)).dry(), 0);
        due(28, "the last alone", Checks.told(hours(24) + Edges.rain(1, 0, 11) + Edges.frost(12, 22)).dry(), 1 << 23);
        due(28, "RAIN and FROST at once", Checks.told(hours(3) + Edges.rain(1, 1, 1) + Edges.frost(1, 1)).dry(), 5);
        due(28, "HEAT does not matter", Checks.told(hours(3) + Edges.heat(3, 0, 23)).dry(), 7);
        due(28, "those of the HOURS alone", Checks.told(hours(1) + Edges.rain(1, 1, 23)).dry(), 1);
    }

    private static void drummer() {
        due(29, "none ever STANDS", Checks.told(hours(24) + Edges.man(0, 0, 1).repeat(6)).drummer(), -1);
        due(29, "no MEN", Checks.told(hours(24)).drummer(), -1);
        due(29, "the first of several", Checks.told(hours(9) + line("xooxox")).drummer(), 1);
        due(29, "the first of all", Checks.told(hours(9) + line("oooooo")).drummer(), 0);
        due(29, "the last", Checks.told(hours(9) + line("xxxxxo")).drummer(), 5);
        due(29, "at most HOURS", Checks.told(hours(9) + Edges.man(3, 1, 1) + Edges.man(4, 1, 1) + Edges.man(4, 1, 1)).drummer(), 1);
        due(29, "at one HOUR alone", Checks.told(hours(9) + Edges.man(0, 1, 1) + Edges.man(1, 1, 1)).drummer(), 1);
    }

    private static void bears() {
        int[][] cases = {{0, -1}, {1, 1}, {2, 2}, {59, 59}, {60, 60}, {61, 60}, {99, 60}};
        for (int[] one : cases) {
            due(30, "STIFF " + one[0], one(24, one[0], 0, 30).bears(0), one[1]);
        }
        due(30, "the least of all HOURS", one(5, 50, 9, 60).bears(0), 14);
        StarchGarrison first = one(3, 5, 0, 60);
        first.iron(0, 1);
        due(30, "the least at HOUR 0", first.bears(0), 5);
        due(30, "0 at the last", one(24, 23, 1, 1).bears(0), -1);
        due(30, "1 at the last", one(24, 24, 1, 60).bears(0), 1);
        due(30, "cracked", Checks.told(hours(3) + Edges.man(99, 0, 1) + Edges.frost(2, 2)).bears(0), -1);
        StarchGarrison x = one(3, 30, 0, 10);
        x.rate(0, 60);
        due(30, "whatever he needs", x.bears(0), 30);
    }

    // ---- promises 31 to 33 ----

    private static void boil() {
        StarchGarrison x = Checks.told(hours(3) + Edges.man(10, 0, 10) + Edges.boiled(10, 0, 10) + Edges.rain(1, 0, 0));
        due(31, "boiled, if he is not", x.boil(0), -1);
        due(31, "not boiled, if he is", x.boil(1), 1);
        due(31, "as now", x.gives(0), 1);
        due(31, "as now", x.gives(1), -1);
        due(31, "he is as told", x.man(0, 3), 0);
        due(31, "he is as told", x.man(1, 3), 1);
        due(31, "at HOUR 0", one(3, 0, 0, 1).boil(0), 0);
        StarchGarrison last = Checks.told(hours(24) + Edges.man(24, 1, 1) + Edges.rain(2, 22, 22));
        due(31, "at the last HOUR", last.boil(0), 23);
        StarchGarrison frost = Checks.told(hours(3) + Edges.boiled(10, 0, 10) + Edges.rain(9, 0, 0) + Edges.frost(0, 0));
        due(31, "no RAIN at FROST", frost.boil(0), -1);
    }

    private static void gain() {
        StarchGarrison none = Checks.told(Edges.head(24, 0, 0, 0, 0, 0) + Edges.man(0, 0, 10) + Edges.man(99, 0, 60));
        due(32, "not from the stock, at HOUR 0", none.gain(0, 0), 24);
        due(32, "at the last HOUR", none.gain(0, 23), 1);
        due(32, "99 at most", none.gain(1, 0), 0);
        due(32, "the stock stays", none.stock(0), 0);
        due(32, "no act", none.count(7), 0);
        StarchGarrison frost = Checks.told(hours(24) + Edges.man(61, 0, 10) + Edges.man(60, 0, 10) + Edges.frost(0, 0));
        due(32, "he would CRACK", frost.gain(0, 0), -24);
        due(32, "behind the FROST", frost.gain(0, 1), 0);
        due(32, "70 does not", frost.gain(1, 0), 0);
        due(32, "-2 is no refusal", Checks.told(hours(2) + Edges.man(61, 0, 10) + Edges.frost(0, 0)).gain(0, 0), -2);
        StarchGarrison acts = one(3, 0, 9, 16);
        acts.iron(0, 1);
        due(32, "besides its acts", acts.gain(0, 1), 1);
        due(32, "9 is too little", acts.gain(0, 0), 0);
    }

    private static void helps() {
        StarchGarrison tie = Checks.told(Edges.head(3, 0, 1, 0, 0, 0) + Edges.man(0, 0, 5) + Edges.man(0, 0, 5));
        due(33, "the first of several", tie.helps(0), 0);
        due(33, "too late", tie.helps(1), -1);
        StarchGarrison two = Checks.told(Edges.head(3, 0, 0, 0, 0, 0) + Edges.man(0, 0, 5) + Edges.man(0, 0, 5));
        due(33, "none alone", two.helps(0), -1);
        due(33, "not longer than now", one(3, 9, 0, 1).helps(0), -1);
        StarchGarrison longest = Checks.told(Edges.head(9, 0, 1, 0, 0, 0) + Edges.man(10, 4, 5) + Edges.man(10, 3, 5));
        // MAN 0 SAGS from HOUR 2 on, MAN 1 too; with a PACKET MAN 0 from HOUR 4 on, MAN 1 from HOUR 6 on.
        due(33, "longest", longest.helps(0), 1);
        due(33, "at the HOUR of need", longest.helps(2), 1);
        StarchGarrison last = one(24, 23, 1, 1);
        due(33, "at the last HOUR", last.helps(23), 0);
        due(33, "no MEN", Checks.told(hours(24)).helps(0), -1);
        due(33, "the stock stays", last.stock(23), 60);
        StarchGarrison six = Checks.told(Edges.head(2, 0, 0, 0, 0, 0) + line("ooooox"));
        due(33, "the last MAN", six.helps(0), 5);
    }

    // ---- promises 34 to 36 ----

    private static void stocks() {
        StarchGarrison day = Checks.told(Edges.head(24, 0, 0, 60, 9, 0) + Edges.man(0, 0, 1));
        for (int hour = 0; hour < 24; hour++) {
            due(34, "a day, HOUR " + hour, day.stock(hour), 60 - 9 * ((hour + 1) / 6));
        }
        due(35, "9 four times", day.eaten(), 36);
        due(36, "at none", day.empty(), -1);
        StarchGarrison five = Checks.told(Edges.head(5, 0, 0, 9, 9, 0));
        due(35, "5 HOURS", five.eaten(), 0);
        due(34, "5 HOURS", five.stock(4), 9);
        due(36, "5 HOURS", five.empty(), -1);
        StarchGarrison six = Checks.told(Edges.head(6, 0, 0, 9, 9, 0));
        due(35, "6 HOURS", six.eaten(), 9);
        due(34, "6 HOURS", six.stock(5), 0);
        due(36, "6 HOURS", six.empty(), 5);
        StarchGarrison less = Checks.told(Edges.head(24, 0, 0, 8, 9, 0));
        due(35, "all, if it is less", less.eaten(), 8);
        due(34, "never below 0", less.stock(23), 0);
        due(36, "then", less.empty(), 5);
        StarchGarrison more = Checks.told(Edges.head(24, 0, 0, 10, 9, 0));
        due(34, "one is left", more.stock(10), 1);
        due(36, "at the next meal", more.empty(), 11);
        due(35, "together", more.eaten(), 10);
        StarchGarrison last = Checks.told(Edges.head(24, 0, 0, 36, 9, 0));
        due(36, "at the last HOUR", last.empty(), 23);
        StarchGarrison never = Checks.told(Edges.head(24, 0, 0, 1, 0, 0));
        due(35, "no WEEVILS", never.eaten(), 0);
        due(36, "no WEEVILS", never.empty(), -1);
        StarchGarrison nothing = Checks.told(Edges.head(24, 0, 0, 0, 9, 0));
        due(34, "no PACKETS", nothing.stock(0), 0);
        due(35, "no PACKETS", nothing.eaten(), 0);
        due(36, "no PACKETS", nothing.empty(), 0);
        takenAheadOfWeevils();
    }

    private static void takenAheadOfWeevils() {
        StarchGarrison x = Checks.told(Edges.head(12, 0, 0, 9, 4, 0) + Edges.man(0, 0, 1));
        x.starch(0, 5, 7);
        due(34, "taken at their HOUR, then eaten at its end", x.stock(5), 0);
        due(35, "what is left", x.eaten(), 2);
        due(36, "then", x.empty(), 5);
        due(34, "not ahead of it", x.stock(4), 9);
        x.undo();
        x.starch(0, 0, 6);
        due(34, "taken at HOUR 0", x.stock(0), 3);
        due(35, "3 are left to eat", x.eaten(), 3);
        x.undo();
        x.iron(0, 0);
        due(34, "an ironing takes none", x.stock(4), 9);
        x.starch(0, 6, 5);
        due(34, "eaten ahead of the next HOUR", x.stock(5), 5);
        due(34, "then taken", x.stock(6), 0);
        due(36, "by an act", x.empty(), 6);
        due(35, "nothing is left for the next meal", x.eaten(), 4);
    }

    /** What is besides is no act: it is answered though there are 30, and none is added or taken. */
    private static void withThirtyActs() {
        StarchGarrison x = Checks.told(Edges.head(3, 0, 0, 0, 0, 0) + Edges.man(0, 7, 20) + Edges.man(50, 0, 1));
        for (int i = 0; i < 30; i++) {
            x.iron(1, 2);
        }
        x.undo();
        x.iron(0, 0);
        due(10, "30 acts", x.stiff(0, 0), 7);
        due(10, "29 of them", x.stiff(1, 2), 99);
        due(32, "with 30 acts", x.gain(0, 0), 0);
        x.undo();
        x.undo();
        x.iron(0, 0);
        x.iron(0, 0);
        due(32, "24 with a PACKET, then 17", x.gain(0, 0), 1);
        due(33, "with 30 acts", x.helps(0), 0);
        due(31, "with 30 acts", x.boil(0), 0);
        due(32, "30 acts still", x.count(7), 30);
    }
}
