import java.util.List;
import java.util.Random;

/** Garrisons by chance (always the same ones), every answer held against the plain Model's. */
public final class ModelTest {
    private static final int GARRISONS = 400;
    private static final int MOST_HOURS_FOR_ALL_SETS = 10;
    private static final Checks checks = new Checks();

    private final Random random;
    private final String name;
    private StarchGarrison x = new StarchGarrison();
    private Model m;
    private String text;

    private ModelTest(int seed) {
        random = new Random(seed);
        name = "garrison " + seed + " ";
    }

    public static void main(String[] args) {
        for (int seed = 0; seed < GARRISONS; seed++) {
            new ModelTest(seed).run();
        }
        checks.finish("ModelTest");
    }

    private void due(String call, long got, long want) {
        checks.due(name + call, got, want);
    }

    private void run() {
        m = Model.random(random);
        text = m.text(random);
        Checks.put(x, text);
        due("garrison", x.garrison(), m.lines());
        int times = random.nextInt(8);
        for (int i = 0; i < times && m.men.length > 0; i++) {
            act();
        }
        told();
        hourByHour();
        renew();
        ofTheWhole();
        renew();
        ifOtherwise();
        renew();
        shares();
        orders();
        seen();
        renew();
        lawsSeen();
        games();
        damp();
        sieges();
    }

    /** Another object in the same state: nothing is promised of one that was called more than 512 times. */
    private void renew() {
        x = Checks.told(text);
        for (int[] act : m.acts) {
            if (act[2] == 0) {
                x.iron(act[0], act[1]);
            } else {
                x.starch(act[0], act[1], act[2]);
            }
        }
    }

    private void act() {
        int man = random.nextInt(m.men.length);
        int hour = random.nextInt(m.hours);
        if (random.nextInt(5) == 0) {
            int left = Math.max(0, m.acts.size() - 1);
            due("undo", x.undo(), m.acts.isEmpty() ? -5 : left);
            if (!m.acts.isEmpty()) {
                m.acts.remove(left);
            }
        } else if (random.nextBoolean()) {
            m.acts.add(new int[] {man, hour, 0});
            due("iron", x.iron(man, hour), m.play()[hour][man]);
        } else {
            int n = 1 + random.nextInt(random.nextBoolean() ? 9 : 3);
            m.acts.add(new int[] {man, hour, n});
            boolean enough = true;
            for (int left : m.stocks()) {
                enough &= left >= 0;
            }
            int answer = x.starch(man, hour, n);
            due("starch " + man + " " + hour + " " + n, answer, enough ? m.play()[hour][man] : -3);
            if (!enough) {
                m.acts.remove(m.acts.size() - 1);
            }
        }
        due("acts", x.count(7), m.acts.size());
    }

    private void told() {
        int[] counts = {m.hours, m.law, m.gap, m.packets, m.weevils, m.odds, m.men.length, m.acts.size(), m.lines(), 0, 0};
        for (int what = 0; what < counts.length; what++) {
            due("count " + what, x.count(what), counts[what]);
        }
        for (int man = 0; man < m.men.length; man++) {
            for (int what = 0; what < 4; what++) {
                due("man " + man + " " + what, x.man(man, what), m.men[man][what]);
            }
        }
        int frosts = 0;
        int dry = 0;
        for (int hour = 0; hour < m.hours; hour++) {
            due("rain " + hour, x.rain(hour), m.rain(hour));
            due("heat " + hour, x.heat(hour), m.heat(hour));
            frosts |= m.frost(hour) ? 1 << hour : 0;
            dry |= !m.frost(hour) && m.rain(hour) == 0 ? 1 << hour : 0;
        }
        due("frosts", x.frosts(), frosts);
        due("dry", x.dry(), dry);
    }

    private void hourByHour() {
        int[][] stiff = m.play();
        int[] sags = m.sags(stiff);
        int[] stocks = m.stocks();
        for (int hour = 0; hour < m.hours; hour++) {
            if (hour % 12 == 0) {
                renew();
            }
            int sum = 0;
            int low = -1;
            int high = -1;
            for (int man = 0; man < m.men.length; man++) {
                int s = stiff[hour][man];
                due("stiff " + man + " " + hour, x.stiff(man, hour), s);
                due("loses " + man + " " + hour, x.loses(man, hour), m.loss(stiff, man, hour));
                due("spare " + man + " " + hour, x.spare(man, hour), s - m.men[man][2]);
                sum += s;
                low = low < 0 || s < stiff[hour][low] ? man : low;
                high = high < 0 || s > stiff[hour][high] ? man : high;
            }
            due("all " + hour, x.all(hour), sum);
            due("weakest " + hour, x.weakest(hour), low);
            due("stiffest " + hour, x.stiffest(hour), high);
            due("sags " + hour, x.sags(hour), sags[hour]);
            due("stands " + hour, x.stands(hour), (1 << m.men.length) - 1 - sags[hour]);
            due("gap " + hour, x.gap(hour), m.widest(sags[hour]));
            due("stock " + hour, x.stock(hour), stocks[hour]);
        }
        due("eaten", x.eaten(), stocks[m.hours]);
        int empty = -1;
        for (int hour = m.hours - 1; hour >= 0; hour--) {
            empty = stocks[hour] == 0 ? hour : empty;
        }
        due("empty", x.empty(), empty);
    }

    private void ofTheWhole() {
        int[][] stiff = m.play();
        int[] sags = m.sags(stiff);
        StringBuilder holds = new StringBuilder();
        int bits = 0;
        for (int hour = 0; hour < m.hours; hour++) {
            boolean held = m.widest(sags[hour]) <= m.gap;
            holds.append(held ? 'h' : ' ');
            bits |= held ? 1 << hour : 0;
        }
        due("holds", x.holds(), bits);
        due("falls", x.falls(), m.falls());
        int spell = 0;
        while (holds.indexOf("h".repeat(spell + 1)) >= 0) {
            spell++;
        }
        due("spell", x.spell(), spell);
        int broken = 0;
        int drummer = -1;
        for (int man = 0; man < m.men.length; man++) {
            ofOne(stiff, sags, man);
            broken |= stiff[m.hours][man] >= 0 ? 1 << man : 0;
            if (m.stood(man) > (drummer < 0 ? 0 : m.stood(drummer))) {
                drummer = man;
            }
        }
        due("broken", x.broken(), broken);
        due("drummer", x.drummer(), drummer);
    }

    private void ofOne(int[][] stiff, int[] sags, int man) {
        due("gives " + man, x.gives(man), m.firstSag(man));
        due("hours " + man, x.hours(man), m.stood(man));
        due("cracks " + man, x.cracks(man), stiff[m.hours][man]);
        int rises = 0;
        int lost = 0;
        int bears = -1;
        for (int hour = 1; hour < m.hours; hour++) {
            rises += (sags[hour] >> man & 1) < (sags[hour - 1] >> man & 1) ? 1 : 0;
            int before = stiff[hour - 1][man];
            lost += before - Math.max(0, before - m.loss(stiff, man, hour - 1));
        }
        for (int needs = 1; needs <= 60; needs++) {
            boolean always = true;
            for (int hour = 0; hour < m.hours; hour++) {
                always &= stiff[hour][man] >= needs;
            }
            bears = always ? needs : bears;
        }
        due("rises " + man, x.rises(man), rises);
        due("lost " + man, x.lost(man), lost);
        due("bears " + man, x.bears(man), bears);
    }

    private void ifOtherwise() {
        for (int man = 0; man < m.men.length; man++) {
            Model other = m.copy();
            other.men[man][3] = 1 - other.men[man][3];
            due("boil " + man, x.boil(man), other.firstSag(man));
            if (m.hours <= MOST_HOURS_FOR_ALL_SETS) {
                int[] best = m.ironing(man);
                due("irons " + man, x.irons(man), best[0]);
                due("ironed " + man, x.ironed(man), best[1]);
            }
        }
        for (int hour = 0; hour < m.hours; hour++) {
            int longest = m.held();
            int helps = -1;
            for (int man = 0; man < m.men.length; man++) {
                Model other = m.copy();
                other.acts.add(new int[] {man, hour, 1});
                due("gain " + man + " " + hour, x.gain(man, hour), other.stood(man) - m.stood(man));
                if (other.held() > longest) {
                    longest = other.held();
                    helps = man;
                }
                due("wants " + man + " " + hour, x.wants(man, hour), wants(man, hour));
            }
            due("helps " + hour, x.helps(hour), helps);
        }
    }

    private int wants(int man, int hour) {
        Model other = m.copy();
        for (int told = 0; told <= 99; told++) {
            other.men[man][0] = told;
            int sag = other.firstSag(man);
            if (sag < 0 || sag > hour) {
                return told;
            }
        }
        return -1;
    }

    private void shares() {
        int[] holds = new int[7];
        int most = m.men.length > 4 && random.nextInt(4) > 0 ? 3 : 6;
        for (int n = 0; n <= most; n++) {
            Model other = m.copy();
            holds[n] = -1;
            int ways = 0;
            int[] first = null;
            List<int[]> rows = m.rows(n);
            for (int[] row : rows) {
                other.shared = row;
                holds[n] = Math.max(holds[n], other.held() - 1);
            }
            for (int[] row : rows) {
                other.shared = row;
                if (other.held() - 1 == holds[n]) {
                    ways++;
                    first = first == null ? row : first;
                }
            }
            due("hold " + n, x.hold(n), holds[n]);
            due("shares " + n, x.shares(n), ways);
            for (int man = 0; man < m.men.length; man++) {
                due("share " + n + " " + man, x.share(n, man), first[man]);
            }
        }
        for (int hour = 0; hour < m.hours && most == 6; hour++) {
            int fewest = -1;
            for (int n = 6; n >= 0; n--) {
                fewest = holds[n] >= hour ? n : fewest;
            }
            due("fewest " + hour, x.fewest(hour), fewest);
        }
    }

    private void orders() {
        Model other = m.copy();
        int best = -1;
        int[] first = null;
        int change = -1;
        int changed = m.held();
        for (int[] order : m.orders()) {
            other.order = order;
            int held = other.held();
            if (held > best) {
                best = held;
                first = order;
            }
        }
        for (int one = 0; one < m.men.length; one++) {
            for (int two = one + 1; two < m.men.length; two++) {
                other.order = m.order.clone();
                other.order[one] = two;
                other.order[two] = one;
                if (other.held() > changed) {
                    changed = other.held();
                    change = 10 * one + two;
                }
            }
        }
        due("ordered", x.ordered(), best - 1);
        for (int i = 0; i < m.men.length; i++) {
            due("order " + i, x.order(i), first[i]);
        }
        due("change", x.change(), change);
    }

    private void seen() {
        for (int man = 0; man < m.men.length; man++) {
            Model other = m.copy();
            other.men[man][0] = random.nextInt(100);
            int[] truth = other.sags(other.play());
            long[] row = new long[2 * random.nextInt(4)];
            for (int i = 0; i < row.length; i += 2) {
                row[i] = random.nextInt(m.hours);
                row[i + 1] = 1 - (truth[(int) row[i]] >> man & 1);
            }
            Checks.row(x, 1, row);
            weighSeen(row, man);
        }
    }

    private void weighSeen(long[] row, int man) {
        Model other = m.copy();
        int ways = 0;
        int least = -1;
        int most = -1;
        int soon = -1;
        int late = -1;
        int[] standing = new int[m.hours];
        for (int told = 0; told <= 99; told++) {
            other.men[man][0] = told;
            int[] sags = other.sags(other.play());
            boolean agrees = true;
            for (int i = 0; i < row.length; i += 2) {
                agrees &= row[i + 1] == 1 - (sags[(int) row[i]] >> man & 1);
            }
            if (agrees) {
                ways++;
                least = least < 0 ? told : least;
                most = told;
                int first = other.firstSag(man);
                soon = first >= 0 && (soon < 0 || first < soon) ? first : soon;
                late = Math.max(late, first);
                for (int hour = 0; hour < m.hours; hour++) {
                    standing[hour] += 1 - (sags[hour] >> man & 1);
                }
            }
        }
        int ask = -1;
        int worst = ways;
        for (int hour = 0; hour < m.hours; hour++) {
            int left = Math.max(standing[hour], ways - standing[hour]);
            ask = left < worst ? hour : ask;
            worst = Math.min(worst, left);
        }
        due("stiffs " + man, x.stiffs(1, man), ways);
        due("least " + man, x.least(1, man), least);
        due("most " + man, x.most(1, man), most);
        due("ask " + man, x.ask(1, man), ask);
        due("soon " + man, x.soon(1, man), soon);
        due("late " + man, x.late(1, man), late);
    }

    private void lawsSeen() {
        Model other = m.copy();
        long[] row = new long[m.men.length == 0 ? 0 : 3 * random.nextInt(4)];
        other.law = random.nextInt(4);
        int[][] truth = other.play();
        for (int i = 0; i < row.length; i += 3) {
            row[i] = random.nextInt(m.men.length);
            row[i + 1] = random.nextInt(m.hours);
            row[i + 2] = truth[(int) row[i + 1]][(int) row[i]];
        }
        Checks.row(x, 2, row);
        int laws = 0;
        int best = -1;
        int latest = -1;
        for (int law = 0; law < 4; law++) {
            other.law = law;
            int[][] stiff = other.play();
            boolean agrees = true;
            for (int i = 0; i < row.length; i += 3) {
                agrees &= stiff[(int) row[i + 1]][(int) row[i]] == row[i + 2];
            }
            laws |= agrees ? 1 << law : 0;
            due("by " + law, x.by(law), other.falls());
            if (other.held() > latest) {
                latest = other.held();
                best = law;
            }
        }
        due("laws", x.laws(2), laws);
        due("law", x.law(), best);
    }

    private int pay(int man, int other, int takes, int otherTakes) {
        Model trial = m.copy();
        trial.shared[man] = takes;
        trial.shared[other] = otherTakes;
        return trial.stood(man) - 2 * takes;
    }

    private void games() {
        for (int man = 0; man < m.men.length; man++) {
            for (int other = 0; other < m.men.length; other++) {
                if (man == other) {
                    continue;
                }
                int rests = 0;
                for (int pair = 0; pair < 4; pair++) {
                    int a = pair % 2;
                    int b = pair / 2;
                    due("gets " + man + " " + other + " " + a + " " + b, x.gets(man, other, a, b), pay(man, other, a, b));
                    boolean rest = pay(man, other, a, b) >= pay(man, other, 1 - a, b)
                            && pay(other, man, b, a) >= pay(other, man, 1 - b, a);
                    rests |= rest ? 1 << pair : 0;
                }
                due("rests " + man + " " + other, x.rests(man, other), rests);
            }
        }
    }

    private void fraction(String call, long above, long below, long[] want) {
        due(call + ", above", above, want[0]);
        due(call + ", below", below, want[1]);
    }

    private void damp() {
        int hour = random.nextInt(Math.min(9, m.hours));
        fraction("line " + hour, x.line(hour, 0), x.line(hour, 1), m.mean(1, 0, hour));
        for (int man = 0; man < m.men.length; man++) {
            fraction("chance " + man + " " + hour, x.chance(man, hour, 0), x.chance(man, hour, 1), m.mean(0, man, hour));
            fraction("mean " + man + " " + hour, x.mean(man, hour, 0), x.mean(man, hour, 1), m.mean(2, man, hour));
        }
    }

    private void sieges() {
        int seed = random.nextInt(2000000001);
        Model other = m.copy();
        other.damp = m.drawn(seed);
        due("drawn " + seed, x.drawn(seed, 0), other.damp);
        due("drawn falls " + seed, x.drawn(seed, 1), other.falls());
        int n = 1 + random.nextInt(20);
        for (int man = 0; man < m.men.length; man++) {
            int luck = 0;
            for (int i = 0; i < n; i++) {
                other.damp = m.drawn(seed + i);
                luck += other.play()[m.hours - 1][man] >= m.men[man][2] ? 1 : 0;
            }
            due("luck " + seed + " " + n + " " + man, x.luck(seed, n, man), luck);
        }
    }
}
