/** Promises 10 to 66 on garrisons small enough to be gone through by hand. */
public final class SiegeTest {
    // By LAW 0, HOURS 0 .. 7: MAN 0 is 50 45 35 20 10 5 0 0, MAN 1 40 37 32 24 18 15 12 9, MAN 2 80 78 71 62 58 56 54 52.
    private static final String THREE = "garrison hours 8 law 0 gap 1 packets 9 weevils 4 odds 5;"
            + "man stiff 50 sweat 5 needs 30;man stiff 40 sweat 3 needs 20 boiled;man stiff 80 sweat 2 needs 35;"
            + "rain 5 from 1 to 2;heat 1 from 2 to 3;frost from 5 to 5;";
    private static final int[][] STIFF = {
        {50, 45, 35, 20, 10, 5, 0, 0}, {40, 37, 32, 24, 18, 15, 12, 9}, {80, 78, 71, 62, 58, 56, 54, 52}};
    private static final int[][] LOSES = {
        {5, 10, 15, 10, 5, 5, 5, 5}, {3, 5, 8, 6, 3, 3, 3, 3}, {2, 7, 9, 4, 2, 2, 2, 2}};
    private static final int[] SAGS = {0, 0, 0, 1, 3, 3, 3, 3};
    private static final Checks checks = new Checks();

    public static void main(String[] args) {
        hourByHour();
        ofTheWhole();
        ifOtherwise();
        stocks();
        byLaws();
        frosts();
        sharesAndOrders();
        ironings();
        seen();
        lawsSeen();
        games();
        damp();
        acts();
        sieges();
        noMen();
        noneBest();
        noneSuch();
        checks.finish("SiegeTest");
    }

    private static void due(String call, long got, long want) {
        checks.due(call, got, want);
    }

    private static void hourByHour() {
        StarchGarrison x = Checks.told(THREE);
        for (int hour = 0; hour < 8; hour++) {
            for (int man = 0; man < 3; man++) {
                due("stiff " + man + " " + hour, x.stiff(man, hour), STIFF[man][hour]);
                due("loses " + man + " " + hour, x.loses(man, hour), LOSES[man][hour]);
                due("spare " + man + " " + hour, x.spare(man, hour), STIFF[man][hour] - x.man(man, 2));
            }
            due("sags " + hour, x.sags(hour), SAGS[hour]);
            due("stands " + hour, x.stands(hour), 7 - SAGS[hour]);
            due("gap " + hour, x.gap(hour), Integer.bitCount(SAGS[hour]));
            due("all " + hour, x.all(hour), STIFF[0][hour] + STIFF[1][hour] + STIFF[2][hour]);
            due("stiffest " + hour, x.stiffest(hour), 2);
            due("weakest " + hour, x.weakest(hour), hour < 2 ? 1 : hour == 2 ? 1 : 0);
        }
        StarchGarrison same = Checks.told("garrison hours 1 law 0 gap 1 packets 9 weevils 4 odds 5;"
                + "man stiff 5 sweat 0 needs 6;man stiff 5 sweat 0 needs 5;man stiff 5 sweat 0 needs 9;man stiff 5 sweat 0 needs 9;");
        due("the first weakest", same.weakest(0), 0);
        due("the first stiffest", same.stiffest(0), 0);
        due("gap of the longer row", same.gap(0), 2);
        due("it does not hold", same.holds(), 0);
    }

    private static void ofTheWhole() {
        StarchGarrison x = Checks.told(THREE);
        int[] gives = {3, 4, -1};
        int[] hours = {3, 4, 8};
        int[] lost = {50, 31, 28};
        int[] bears = {-1, 9, 52};
        for (int man = 0; man < 3; man++) {
            due("gives " + man, x.gives(man), gives[man]);
            due("hours " + man, x.hours(man), hours[man]);
            due("lost " + man, x.lost(man), lost[man]);
            due("bears " + man, x.bears(man), bears[man]);
            due("cracks " + man, x.cracks(man), -1);
            due("rises " + man, x.rises(man), 0);
        }
        due("broken", x.broken(), 0);
        due("holds", x.holds(), 15);
        due("falls", x.falls(), 4);
        due("spell", x.spell(), 4);
        due("dry", x.dry(), 0b11011001);
        due("frosts", x.frosts(), 32);
        due("drummer", x.drummer(), 2);
        due("iron to rise", x.iron(0, 3), 27);
        due("no rise yet", x.rises(0), 0);
        due("starch to rise", x.starch(0, 4, 2), 37);
        due("a rise", x.rises(0), 1);
        due("another", x.starch(0, 7, 3), 52);
        due("two rises", x.rises(0), 2);
        due("longest spell of two", x.spell(), 6);
        StarchGarrison strong = Checks.told("garrison hours 2 law 0 gap 0 packets 0 weevils 0 odds 0;man stiff 99 sweat 0 needs 60;");
        due("bears 60 at most", strong.bears(0), 60);
        due("falls never", strong.falls(), -1);
        StarchGarrison weak = Checks.told("garrison hours 2 law 0 gap 0 packets 0 weevils 0 odds 0;man stiff 5 sweat 0 needs 60;");
        due("no drummer", weak.drummer(), -1);
        StarchGarrison spells = Checks.told("garrison hours 7 law 0 gap 0 packets 9 weevils 0 odds 0;man stiff 12 sweat 5 needs 5;");
        spells.starch(0, 3, 2);
        due("12 7 2 20 15 10 5 holds", spells.holds(), 0b1111011);
        due("the longer spell", spells.spell(), 4);
    }

    private static void ifOtherwise() {
        StarchGarrison x = Checks.told(THREE);
        due("boil 0", x.boil(0), 3);
        due("boil 1", x.boil(1), 3);
        due("boil 2", x.boil(2), -1);
        due("gain 0 0", x.gain(0, 0), 1);
        due("gain 0 3", x.gain(0, 3), 1);
        due("gain 1 0", x.gain(1, 0), 3);
        due("gain 2 5", x.gain(2, 5), 0);
        due("helps 0", x.helps(0), 1);
        due("helps 3", x.helps(3), 1);
        due("helps 5", x.helps(5), -1);
        due("wants 0 0", x.wants(0, 0), 30);
        due("wants 0 3", x.wants(0, 3), 60);
        due("wants 0 7", x.wants(0, 7), 85);
        due("wants 2 5", x.wants(2, 5), 59);
        due("wants 1 7", x.wants(1, 7), 51);
        StarchGarrison frost = Checks.told("garrison hours 3 law 0 gap 0 packets 9 weevils 0 odds 0;"
                + "man stiff 70 sweat 9 needs 60;frost from 0 to 0;heat 3 from 1 to 1;");
        due("stands twice, would crack", frost.gain(0, 0), -2);
        due("never so stiff", frost.wants(0, 2), -1);
        due("so stiff", frost.wants(0, 1), 69);
    }

    private static void stocks() {
        StarchGarrison x = Checks.told(THREE);
        due("stock 4", x.stock(4), 9);
        due("stock 5", x.stock(5), 5);
        due("stock 7", x.stock(7), 5);
        due("eaten", x.eaten(), 4);
        due("empty", x.empty(), -1);
        due("starch 6", x.starch(1, 6, 5), 62);
        due("stock 5 still", x.stock(5), 5);
        due("stock 6", x.stock(6), 0);
        due("empty then", x.empty(), 6);
        due("taken ahead, the later one's lack", x.starch(1, 0, 1), -3);
        due("nothing happened", x.count(7), 1);
        due("none left", x.starch(1, 7, 1), -3);
        due("undo", x.undo(), 0);
        due("6 at 0", x.starch(1, 0, 6), 99);
        due("weevils eat what is left", x.eaten(), 3);
        due("empty by weevils", x.empty(), 5);
        due("3 at 5, he cracks", x.starch(1, 5, 3), 0);
        due("nothing to eat", x.eaten(), 0);
        due("empty at 5", x.empty(), 5);
        StarchGarrison day = Checks.told("garrison hours 24 law 0 gap 1 packets 20 weevils 6 odds 5;man stiff 0 sweat 0 needs 1;");
        int[] left = {20, 14, 14, 8, 8, 2, 2, 0};
        int[] when = {4, 5, 10, 11, 16, 17, 22, 23};
        for (int i = 0; i < when.length; i++) {
            due("stock of the day " + when[i], day.stock(when[i]), left[i]);
        }
        due("eaten of the day", day.eaten(), 20);
        due("empty of the day", day.empty(), 23);
        StarchGarrison none = Checks.told("garrison hours 6 law 0 gap 1 packets 0 weevils 6 odds 5;");
        due("empty from the start", none.empty(), 0);
        due("nothing eaten", none.eaten(), 0);
    }

    private static String lawful(int law) {
        return "garrison hours 3 law " + law + " gap 1 packets 0 weevils 0 odds 0;"
                + "man stiff 10 sweat 1 needs 20;man stiff 55 sweat 4 needs 40;man stiff 99 sweat 2 needs 1 boiled;"
                + "heat 1 from 0 to 0;rain 3 from 1 to 1;";
    }

    private static void byLaws() {
        // MAN 1: his sweat is 8 at HOUR 0, 4 at HOUR 1, twice that beside MAN 0; MAN 2 stands beside one who may SAG at HOUR 1.
        int[][] one = {{55, 47, 40}, {55, 42, 31}, {55, 39, 28}, {55, 34, 20}};
        int[][] two = {{99, 95, 92}, {99, 86, 75}, {99, 95, 90}, {99, 86, 73}};
        int[] falls = {-1, 2, 1, 1};
        for (int law = 0; law < 4; law++) {
            StarchGarrison x = Checks.told(lawful(law));
            for (int hour = 0; hour < 3; hour++) {
                due("law " + law + " stiff 1 " + hour, x.stiff(1, hour), one[law][hour]);
                due("law " + law + " stiff 2 " + hour, x.stiff(2, hour), two[law][hour]);
            }
            due("law " + law + " falls", x.falls(), falls[law]);
            for (int other = 0; other < 4; other++) {
                due("by " + other + " in place of " + law, x.by(other), falls[other]);
            }
            due("law", x.law(), 0);
            due("by -1", x.by(-1), -2);
            due("by 4", x.by(4), -2);
        }
        StarchGarrison tie = Checks.told("garrison hours 1 law 3 gap 0 packets 0 weevils 0 odds 0;man stiff 1 sweat 0 needs 2;");
        due("law, all fall at once", tie.law(), 0);
    }

    private static void frosts() {
        StarchGarrison x = Checks.told("garrison hours 4 law 1 gap 0 packets 60 weevils 0 odds 10;"
                + "man stiff 71 sweat 3 needs 10;man stiff 70 sweat 3 needs 10;man stiff 40 sweat 3 needs 10;"
                + "frost from 0 to 0;frost from 2 to 2;rain 4 from 0 to 3;");
        due("above 70 cracks", x.stiff(0, 0), 0);
        due("cracks at 0", x.cracks(0), 0);
        due("he loses still", x.loses(0, 0), 3);
        due("no rain in frost", x.loses(1, 0), 10);
        due("70 does not", x.stiff(1, 0), 70);
        due("rain without", x.loses(1, 1), 13);
        due("broken", x.broken(), 1);
        due("whatever is done", x.starch(0, 1, 9), 0);
        due("nor later", x.stiff(0, 3), 0);
        due("starched above 70 in frost", x.starch(2, 2, 6), 0);
        due("cracks at 2", x.cracks(2), 2);
        due("broken two", x.broken(), 5);
        due("lost, cracking aside", x.lost(2), 7 + 10);
        due("lost of one cracked", x.lost(0), 0);
        due("the ironing behind it", x.iron(2, 3), 0);
        due("undo", x.undo(), 2);
        due("undo", x.undo(), 1);
        due("not any more", x.cracks(2), -1);
        // DAMP always: 4 more, but not in frost: 70 60 then 60 - 13 - 4.
        due("no damp in frost", x.mean(1, 1, 0), 60);
        due("damp", x.mean(1, 2, 0), 43);
    }

    private static void sharesAndOrders() {
        StarchGarrison x = Checks.told(THREE);
        int[] hold = {3, 6, 7, 7};
        int[] ways = {1, 1, 1, 3};
        int[][] rows = {{0, 0, 0}, {0, 1, 0}, {0, 2, 0}, {0, 2, 1}};
        for (int n = 0; n < 4; n++) {
            due("hold " + n, x.hold(n), hold[n]);
            due("shares " + n, x.shares(n), ways[n]);
            for (int man = 0; man < 3; man++) {
                due("share " + n + " " + man, x.share(n, man), rows[n][man]);
            }
        }
        int[] fewest = {0, 0, 0, 0, 1, 1, 1, 2};
        for (int hour = 0; hour < 8; hour++) {
            due("fewest " + hour, x.fewest(hour), fewest[hour]);
        }
        due("ordered", x.ordered(), 7);
        due("order 0", x.order(0), 0);
        due("order 1", x.order(1), 2);
        due("order 2", x.order(2), 1);
        due("change", x.change(), 12);
        due("starch", x.starch(1, 0, 2), 60);
        due("hold 0 then", x.hold(0), 7);
        due("ordered then", x.ordered(), 7);
        due("order 1 then", x.order(1), 1);
        due("no change then", x.change(), -1);
        due("fewest then", x.fewest(7), 0);
        due("acts as before", x.count(7), 1);
        due("stock as before", x.stock(0), 7);
    }

    private static void ironings() {
        StarchGarrison x = Checks.told(THREE);
        due("irons 0", x.irons(0), 5);
        due("ironed 0", x.ironed(0), 31);
        due("irons 1", x.irons(1), 2);
        due("ironed 1", x.ironed(1), 3);
        due("irons 2", x.irons(2), 0);
        due("ironed 2", x.ironed(2), 0);
        StarchGarrison never = Checks.told("garrison hours 2 law 0 gap 0 packets 9 weevils 0 odds 0;man stiff 2 sweat 9 needs 10;");
        due("never at hour 0", never.irons(0), -1);
        due("never", never.ironed(0), -1);
        due("acts", never.iron(0, 0), 9);
        due("at both hours besides", never.irons(0), 2);
        due("both", never.ironed(0), 3);
        due("acts", never.iron(0, 0), 16);
        due("acts", never.starch(0, 1, 1), 17);
        due("none besides", never.irons(0), 0);
        // 70 at FROST stays, ironed at 0 he would crack at once; so late as HOUR 1 it must be.
        StarchGarrison frost = Checks.told("garrison hours 3 law 0 gap 0 packets 9 weevils 0 odds 0;man stiff 70 sweat 8 needs 57;frost from 0 to 0;");
        due("one ironing", frost.irons(0), 1);
        due("behind the frost", frost.ironed(0), 2);
    }

    private static void seen() {
        StarchGarrison x = Checks.told(THREE);
        Checks.row(x, 0, 3, 1);
        due("stood at 3", x.stiffs(0, 0), 40);
        due("least", x.least(0, 0), 60);
        due("most", x.most(0, 0), 99);
        Checks.row(x, 0, 3, 1, 5, 0);
        due("stood at 3, sagged at 5", x.stiffs(0, 0), 15);
        due("least", x.least(0, 0), 60);
        due("most", x.most(0, 0), 74);
        due("ask", x.ask(0, 0), 4);
        due("soon", x.soon(0, 0), 4);
        due("late", x.late(0, 0), 5);
        Checks.row(x, 0, 0, 0);
        due("sagged at 0", x.stiffs(0, 0), 30);
        due("least", x.least(0, 0), 0);
        due("most", x.most(0, 0), 29);
        due("nothing to ask", x.ask(0, 0), -1);
        due("soon", x.soon(0, 0), 0);
        due("late", x.late(0, 0), 0);
        Checks.row(x, 0, 0, 1, 0, 0);
        due("both", x.stiffs(0, 0), 0);
        due("least of none", x.least(0, 0), -1);
        due("most of none", x.most(0, 0), -1);
        due("ask of none", x.ask(0, 0), -1);
        due("soon of none", x.soon(0, 0), -1);
        due("late of none", x.late(0, 0), -1);
        Checks.row(x, 0);
        due("nothing was seen", x.stiffs(0, 2), 100);
        // MAN 2 needs 35: at HOUR h he stands from 35, 37, 44, 53, 57, 59, 61, 63 on; at FROST 95 and more crack.
        due("ask the middle", x.ask(0, 2), 3);
        due("soon", x.soon(0, 2), 0);
        due("late", x.late(0, 2), 7);
        Checks.row(x, 0, 7, 1);
        due("stood at the end", x.stiffs(0, 2), 32);
        due("never sags", x.soon(0, 2), -1);
        due("never sags", x.late(0, 2), -1);
        refusals(x);
    }

    private static void refusals(StarchGarrison x) {
        long[][] wrong = {{0}, {0, 1, 2}, {8, 0}, {-1, 0}, {0, 2}, {0, -1}, {0, 1, 1, 1L << 32}};
        for (long[] row : wrong) {
            Checks.row(x, 1, row);
            due("stiffs wrong row", x.stiffs(1, 0), -2);
            due("least wrong row", x.least(1, 0), -2);
            due("most wrong row", x.most(1, 0), -2);
            due("ask wrong row", x.ask(1, 0), -2);
            due("soon wrong row", x.soon(1, 0), -2);
            due("late wrong row", x.late(1, 0), -2);
        }
        int[][] none = {{-1, 0, -2}, {4, 0, -2}, {0, -1, -2}, {0, 3, -2}, {3, 0, -6}, {3, 3, -2}};
        for (int[] call : none) {
            due("stiffs of none", x.stiffs(call[0], call[1]), call[2]);
            due("least of none", x.least(call[0], call[1]), call[2]);
            due("most of none", x.most(call[0], call[1]), call[2]);
            due("ask of none", x.ask(call[0], call[1]), call[2]);
            due("soon of none", x.soon(call[0], call[1]), call[2]);
            due("late of none", x.late(call[0], call[1]), call[2]);
        }
    }

    private static void lawsSeen() {
        StarchGarrison x = Checks.told(lawful(0));
        Checks.row(x, 0, 2, 1, 95);
        due("95 by 0 and 2", x.laws(0), 5);
        Checks.row(x, 0, 2, 1, 95, 1, 1, 39);
        due("and 39 by 2", x.laws(0), 4);
        Checks.row(x, 0, 1, 2, 20);
        due("20 by 3", x.laws(0), 8);
        Checks.row(x, 0, 1, 2, 21);
        due("21 by none", x.laws(0), 0);
        Checks.row(x, 0);
        due("nothing seen", x.laws(0), 15);
        long[][] wrong = {{0}, {0, 0}, {0, 0, 10, 0}, {3, 0, 0}, {-1, 0, 0}, {0, 3, 0}, {0, -1, 0}, {0, 0, 100}, {0, 0, -1}};
        for (long[] row : wrong) {
            Checks.row(x, 0, row);
            due("laws wrong row", x.laws(0), -2);
        }
        due("laws slot 4", x.laws(4), -2);
        due("laws slot -1", x.laws(-1), -2);
        due("laws of nothing", x.laws(1), -6);
        due("no garrison ahead of nothing", new StarchGarrison().laws(1), -2);
    }

    private static void games() {
        StarchGarrison x = Checks.told(THREE);
        due("gets 0, none takes", x.gets(0, 1, 0, 0), 3);
        due("gets 0, he takes", x.gets(0, 1, 1, 0), 2);
        due("gets 0, both", x.gets(0, 1, 1, 1), 2);
        due("gets 1, he takes", x.gets(1, 0, 1, 0), 5);
        due("gets 1, the other takes", x.gets(1, 0, 0, 1), 4);
        due("rests 0 1", x.rests(0, 1), 4);
        due("rests 1 0", x.rests(1, 0), 2);
        due("rests 0 2", x.rests(0, 2), 1);
        due("rests one twice", x.rests(1, 1), -2);
        due("rests 3", x.rests(0, 3), -2);
        due("rests -1", x.rests(-1, 0), -2);
        due("gets one twice", x.gets(1, 1, 0, 0), -1000);
        due("gets 3", x.gets(3, 1, 0, 0), -1000);
        due("gets takes 2", x.gets(0, 1, 2, 0), -1000);
        due("gets other takes -1", x.gets(0, 1, 0, -1), -1000);
        // Both alike by LAW 0: a PACKET is worth 2 HOURS at 5 an HOUR, as much as it costs: all four rest.
        StarchGarrison even = Checks.told("garrison hours 9 law 0 gap 0 packets 0 weevils 0 odds 0;"
                + "man stiff 20 sweat 5 needs 10;man stiff 20 sweat 5 needs 10;");
        due("all rest", even.rests(0, 1), 15);
    }

    private static void fraction(String call, long above, long below, long wantAbove, long wantBelow) {
        due(call + ", above", above, wantAbove);
        due(call + ", below", below, wantBelow);
    }

    private static void damp() {
        StarchGarrison x = Checks.told(THREE);
        fraction("chance 0 2", x.chance(0, 2, 0), x.chance(0, 2, 1), 3, 4);
        fraction("chance 1 3", x.chance(1, 3, 0), x.chance(1, 3, 1), 1, 2);
        fraction("chance 0 3", x.chance(0, 3, 0), x.chance(0, 3, 1), 0, 1);
        fraction("chance 2 0", x.chance(2, 0, 0), x.chance(2, 0, 1), 1, 1);
        fraction("line 2", x.line(2, 0), x.line(2, 1), 1, 1);
        fraction("line 3", x.line(3, 0), x.line(3, 1), 1, 2);
        fraction("line 4", x.line(4, 0), x.line(4, 1), 0, 1);
        fraction("mean 0 1", x.mean(0, 1, 0), x.mean(0, 1, 1), 43, 1);
        fraction("mean 0 2", x.mean(0, 2, 0), x.mean(0, 2, 1), 31, 1);
        // 5 at HOUR 5 without DAMP, with k of 4 at HOURS 0 .. 3: max(0, 10 - 4 k) at HOUR 4: 10 6 2 0 0.
        fraction("mean 0 4", x.mean(0, 4, 0), x.mean(0, 4, 1), 23, 8);
        StarchGarrison day = Checks.told("garrison hours 24 law 0 gap 0 packets 0 weevils 0 odds 3;man stiff 40 sweat 0 needs 37;");
        fraction("dry for 8", day.chance(0, 8, 0), day.chance(0, 8, 1), 5764801, 100000000);
        fraction("mean for 8", day.mean(0, 8, 0), day.mean(0, 8, 1), 152, 5);
        fraction("line for 8", day.line(8, 0), day.line(8, 1), 5764801, 100000000);
        due("chance 9", day.chance(0, 9, 0), -2);
        due("line 9", day.line(9, 0), -2);
        due("mean 9", day.mean(0, 9, 0), -2);
        due("chance beyond the hours", x.chance(0, 8, 0), -2);
        due("line beyond the hours", x.line(8, 0), -2);
        due("mean beyond the hours", x.mean(0, 8, 0), -2);
        due("chance -1", x.chance(0, -1, 0), -2);
        due("chance what 2", x.chance(0, 0, 2), -2);
        due("chance what -1", x.chance(0, 0, -1), -2);
        due("line what 2", x.line(0, 2), -2);
        due("mean what 2", x.mean(0, 0, 2), -2);
        due("chance man 3", x.chance(3, 0, 0), -2);
        due("mean man -1", x.mean(-1, 0, 0), -2);
        due("line -1", x.line(-1, 0), -2);
    }

    private static void acts() {
        StarchGarrison x = Checks.told("garrison hours 2 law 0 gap 0 packets 60 weevils 0 odds 0;man stiff 5 sweat 1 needs 1;");
        due("starch 0", x.starch(0, 0, 0), -2);
        due("starch 10", x.starch(0, 0, 10), -2);
        due("starch man", x.starch(1, 0, 1), -2);
        due("starch hour", x.starch(0, 2, 1), -2);
        due("starch hour -1", x.starch(0, -1, 1), -2);
        due("iron man", x.iron(1, 0), -2);
        due("iron hour", x.iron(0, 2), -2);
        due("undo none", x.undo(), -5);
        due("anew none", x.anew(), 0);
        due("starch 9", x.starch(0, 1, 9), 94);
        due("iron", x.iron(0, 1), 99);
        due("starch ahead", x.starch(0, 0, 1), 15);
        due("acts", x.count(7), 3);
        due("packets as told", x.count(3), 60);
        due("undo", x.undo(), 2);
        due("stiff", x.stiff(0, 0), 5);
        due("anew", x.anew(), 2);
        due("acts", x.count(7), 0);
        due("stock", x.stock(1), 60);
        for (int i = 1; i <= 30; i++) {
            due("iron " + i, x.iron(0, 0), Math.min(99, 5 + 7 * i));
        }
        due("a 31st iron", x.iron(0, 0), -5);
        due("a 31st starch", x.starch(0, 0, 1), -5);
        due("-2 ahead of -5", x.starch(0, 0, 10), -2);
        due("-2 ahead of -5", x.iron(0, 9), -2);
        due("undo of 30", x.undo(), 29);
        due("a 30th", x.starch(0, 1, 1), 99);
        StarchGarrison few = Checks.told("garrison hours 2 law 0 gap 0 packets 4 weevils 0 odds 0;man stiff 5 sweat 1 needs 1;");
        due("starch 5 of 4", few.starch(0, 0, 5), -3);
        due("starch 4 of 4", few.starch(0, 1, 4), 44);
        for (int i = 1; i <= 29; i++) {
            few.iron(0, 0);
        }
        due("-5 ahead of -3", few.starch(0, 0, 9), -5);
    }

    private static void sieges() {
        StarchGarrison x = Checks.told(THREE);
        int[] seeds = {0, 1, 5, 6, 7, 8, 2000000000};
        int[] damps = {129, 84, 112, 4, 217, 111, 39};
        // MAN 1 SAGS at HOUR 3 if two of HOURS 0 .. 2 are damp, else at HOUR 4 as ever; MAN 0 SAGS at HOUR 3 or ahead.
        int[] falls = {4, 4, 4, 4, 4, 3, 3};
        for (int i = 0; i < seeds.length; i++) {
            due("drawn " + seeds[i], x.drawn(seeds[i], 0), damps[i]);
            due("falls " + seeds[i], x.drawn(seeds[i], 1), falls[i]);
        }
        due("drawn what", x.drawn(0, 2), -2);
        due("drawn what -1", x.drawn(0, -1), -2);
        due("drawn seed -1", x.drawn(-1, 0), -2);
        due("drawn seed", x.drawn(2000000001, 0), -2);
        due("luck 2", x.luck(0, 20, 2), 17);
        due("luck 0", x.luck(0, 20, 0), 0);
        // 80 less 28 and 4 for each HOUR of DAMP but the 5th, against 35: four are borne; DAMP at the last HOUR is too late.
        x.rate(2, 40);
        due("seeds 5 6 7 8: 3 - 1, 1, 4, 4 damp", x.luck(5, 4, 2), 2);
        due("seed 7 alone", x.luck(7, 1, 2), 0);
        due("luck n 0", x.luck(5, 0, 2), -2);
        due("luck n 21", x.luck(5, 21, 2), -2);
        due("luck man", x.luck(5, 4, 3), -2);
        due("luck seed", x.luck(-1, 4, 2), -2);
        due("luck seeds beyond", x.luck(2000000000, 20, 0), 0);
        StarchGarrison never = Checks.told("garrison hours 24 law 0 gap 0 packets 0 weevils 0 odds 0;man stiff 1 sweat 0 needs 1;");
        due("no damp", never.drawn(5, 0), 0);
        due("never falls", never.drawn(5, 1), -1);
        StarchGarrison ever = Checks.told("garrison hours 24 law 0 gap 0 packets 0 weevils 0 odds 10;man stiff 9 sweat 0 needs 1;frost from 0 to 0;");
        due("damp at frost, too", ever.drawn(5, 0), (1 << 24) - 1);
        due("falls by it", ever.drawn(5, 1), 4);
    }

    private static void noMen() {
        StarchGarrison x = Checks.told("garrison hours 3 law 2 gap 0 packets 5 weevils 1 odds 5;");
        due("stands", x.stands(0), 0);
        due("sags", x.sags(0), 0);
        due("gap", x.gap(0), 0);
        due("holds", x.holds(), 7);
        due("falls", x.falls(), -1);
        due("spell", x.spell(), 3);
        due("weakest", x.weakest(0), -1);
        due("stiffest", x.stiffest(0), -1);
        due("all", x.all(0), 0);
        due("broken", x.broken(), 0);
        due("drummer", x.drummer(), -1);
        due("helps", x.helps(0), -1);
        due("hold 0", x.hold(0), 2);
        due("shares 0", x.shares(0), 1);
        due("no share of 3 packets", x.shares(3), 0);
        due("hold 3", x.hold(3), -1);
        due("fewest", x.fewest(2), 0);
        due("ordered", x.ordered(), 2);
        due("order 0", x.order(0), -2);
        due("change", x.change(), -1);
        due("by", x.by(3), -1);
        due("law", x.law(), 0);
        fraction("line", x.line(2, 0), x.line(2, 1), 1, 1);
        due("drawn", x.drawn(5, 1), -1);
        due("man", x.stiff(0, 0), -2);
    }

    private static void noneBest() {
        StarchGarrison x = Checks.told("garrison hours 3 law 0 gap 0 packets 5 weevils 1 odds 5;"
                + "man stiff 0 sweat 0 needs 60;man stiff 0 sweat 0 needs 60;");
        due("not even hour 0", x.hold(2), -1);
        due("all shares are alike", x.shares(2), 3);
        due("the least row", x.share(2, 0), 0);
        due("the least row", x.share(2, 1), 2);
        due("no order either", x.ordered(), -1);
        due("the least order", x.order(0), 0);
        due("fewest", x.fewest(0), -1);
        due("falls at once", x.falls(), 0);
        due("spell", x.spell(), 0);
    }

    private static void noneSuch() {
        for (StarchGarrison x : new StarchGarrison[] {new StarchGarrison(), Checks.told(THREE)}) {
            int[][] pairs = {{-1, 0}, {3, 0}, {0, -1}, {0, 8}, {Integer.MIN_VALUE, 0}, {0, Integer.MAX_VALUE}};
            for (int[] pair : pairs) {
                due("stiff of none", x.stiff(pair[0], pair[1]), -2);
                due("loses of none", x.loses(pair[0], pair[1]), -2);
                due("wants of none", x.wants(pair[0], pair[1]), -2);
                due("spare of none", x.spare(pair[0], pair[1]), -1000);
                due("gain of none", x.gain(pair[0], pair[1]), -1000);
            }
            for (int man : new int[] {-1, 3, 6, Integer.MAX_VALUE}) {
                long[] answers = {x.gives(man), x.hours(man), x.cracks(man), x.rises(man), x.lost(man), x.bears(man),
                    x.boil(man), x.irons(man), x.ironed(man), x.order(man), x.share(0, man)};
                for (int i = 0; i < answers.length; i++) {
                    due("call " + i + " of no man", answers[i], -2);
                }
            }
            for (int hour : new int[] {-1, 8, 24, Integer.MIN_VALUE}) {
                long[] answers = {x.rain(hour), x.heat(hour), x.stands(hour), x.gap(hour), x.weakest(hour), x.all(hour),
                    x.stiffest(hour), x.sags(hour), x.helps(hour), x.stock(hour), x.fewest(hour)};
                for (int i = 0; i < answers.length; i++) {
                    due("call " + i + " of no hour", answers[i], -2);
                }
            }
            for (int n : new int[] {-1, 7}) {
                due("hold " + n, x.hold(n), -2);
                due("shares " + n, x.shares(n), -2);
                due("share " + n, x.share(n, 0), -2);
            }
        }
        StarchGarrison x = new StarchGarrison();
        long[] answers = {x.frosts(), x.broken(), x.holds(), x.falls(), x.spell(), x.dry(), x.drummer(), x.eaten(), x.empty(),
            x.hold(0), x.shares(0), x.ordered(), x.change(), x.by(0), x.law(), x.drawn(0, 0), x.undo(), x.anew()};
        for (int i = 0; i < answers.length; i++) {
            due("call " + i + " of no garrison", answers[i], -2);
        }
    }
}
