import java.math.BigInteger;
import java.util.ArrayList;
import java.util.List;
import java.util.Random;

/** A garrison gone through in the plainest way, with no thought of cost: what ModelTest holds StarchGarrison against. */
final class Model {
    int hours;
    int law;
    int gap;
    int packets;
    int weevils;
    int odds;
    int[][] men;
    int[][] rains;
    int[][] heats;
    int[][] frosts;
    final List<int[]> acts = new ArrayList<>();

    // What may be otherwise in a trial.
    int[] order;
    int[] shared;
    int damp;
    int ironMan = -1;
    int ironHours;
    int[] sagsAsNow;

    static Model random(Random random) {
        Model m = new Model();
        m.hours = random.nextInt(15) == 0 ? 24 : 1 + random.nextInt(random.nextInt(4) == 0 ? 24 : 11);
        m.law = random.nextInt(4);
        m.gap = random.nextInt(4);
        m.packets = random.nextInt(61);
        m.weevils = random.nextInt(10);
        m.odds = random.nextInt(11);
        m.men = new int[random.nextInt(5) == 0 ? random.nextInt(7) : 1 + random.nextInt(4)][];
        for (int i = 0; i < m.men.length; i++) {
            int needs = 1 + random.nextInt(random.nextBoolean() ? 60 : 30);
            m.men[i] = new int[] {random.nextInt(100), random.nextInt(random.nextBoolean() ? 10 : 4), needs, random.nextInt(2)};
        }
        m.rains = spans(random, 9);
        m.heats = spans(random, 3);
        m.frosts = spans(random, 1);
        m.plain();
        return m;
    }

    private static int[][] spans(Random random, int most) {
        int[][] spans = new int[random.nextInt(4)][];
        for (int i = 0; i < spans.length; i++) {
            int from = random.nextInt(random.nextBoolean() ? 24 : 8);
            int to = Math.min(23, from + random.nextInt(random.nextInt(3) == 0 ? 24 : 4));
            spans[i] = new int[] {1 + random.nextInt(most), from, to};
        }
        return spans;
    }

    Model copy() {
        Model m = new Model();
        m.hours = hours;
        m.law = law;
        m.gap = gap;
        m.packets = packets;
        m.weevils = weevils;
        m.odds = odds;
        m.men = new int[men.length][];
        for (int i = 0; i < men.length; i++) {
            m.men[i] = men[i].clone();
        }
        m.rains = rains;
        m.heats = heats;
        m.frosts = frosts;
        m.acts.addAll(acts);
        m.plain();
        return m;
    }

    private void plain() {
        order = new int[men.length];
        shared = new int[men.length];
        for (int i = 0; i < men.length; i++) {
            order[i] = i;
        }
    }

    int lines() {
        return 1 + men.length + rains.length + heats.length + frosts.length;
    }

    String text(Random random) {
        List<String> lines = new ArrayList<>();
        for (int[] r : rains) {
            lines.add("rain " + r[0] + " from " + r[1] + " to " + r[2] + " ;");
        }
        for (int[] h : heats) {
            lines.add("heat " + h[0] + "from " + h[1] + "\nto " + h[2] + ";");
        }
        for (int[] f : frosts) {
            lines.add("frost from " + f[1] + " to " + f[2] + ";\n");
        }
        java.util.Collections.shuffle(lines, random);
        int at = 0;
        for (int[] man : men) {
            at += random.nextInt(lines.size() - at + 1);
            String boiled = man[3] == 1 ? "boiled" : "";
            lines.add(at, "man stiff " + man[0] + " sweat " + man[1] + " needs " + man[2] + boiled + ";");
            at++;
        }
        return "garrison hours " + hours + " law " + law + " gap " + gap + " packets " + packets + " weevils " + weevils
                + " odds " + odds + " ;" + String.join(random.nextBoolean() ? "" : "\n", lines);
    }

    private static int total(int[][] spans, int hour) {
        int sum = 0;
        for (int[] span : spans) {
            if (hour >= span[1] && hour <= span[2]) {
                sum += span[0];
            }
        }
        return sum;
    }

    int rain(int hour) {
        return total(rains, hour);
    }

    int heat(int hour) {
        return total(heats, hour);
    }

    boolean frost(int hour) {
        return total(frosts, hour) > 0;
    }

    /** STIFF of all, [hour][man]; the row behind the last HOUR says when each CRACKS. */
    int[][] play() {
        int[][] stiff = new int[hours + 1][men.length];
        java.util.Arrays.fill(stiff[hours], -1);
        for (int hour = 0; hour < hours; hour++) {
            for (int man = 0; man < men.length; man++) {
                int s = hour == 0 ? men[man][0] : Math.max(0, stiff[hour - 1][man] - loss(stiff, man, hour - 1));
                if (hour == 0) {
                    s = Math.min(99, s + 10 * shared[man]);
                }
                for (int[] act : acts) {
                    if (act[0] == man && act[1] == hour) {
                        s = Math.min(99, s + (act[2] == 0 ? 7 : 10 * act[2]));
                    }
                }
                if (man == ironMan && (ironHours >> hour & 1) == 1) {
                    s = Math.min(99, s + 7);
                }
                if (stiff[hours][man] >= 0) {
                    s = 0;
                } else if (frost(hour) && s > 70) {
                    stiff[hours][man] = hour;
                    s = 0;
                }
                stiff[hour][man] = s;
            }
        }
        return stiff;
    }

    int loss(int[][] stiff, int man, int hour) {
        int sweat = men[man][1] * (1 + heat(hour));
        int loss = sweat;
        if (!frost(hour)) {
            loss += men[man][3] == 1 ? rain(hour) / 2 : rain(hour);
            loss += (damp >> hour & 1) == 1 ? 4 : 0;
        }
        if (law == 1 || law == 3) {
            loss += stiff[hour][man] / 10;
        }
        if (law == 2 || law == 3) {
            loss += oneBesideSags(stiff, man, hour) ? sweat : 0;
        }
        return loss;
    }

    private boolean oneBesideSags(int[][] stiff, int man, int hour) {
        for (int place = 0; place + 1 < order.length; place++) {
            int a = order[place];
            int b = order[place + 1];
            if (a == man && sagsThen(stiff, b, hour) || b == man && sagsThen(stiff, a, hour)) {
                return true;
            }
        }
        return false;
    }

    private boolean sagsThen(int[][] stiff, int man, int hour) {
        return sagsAsNow != null ? (sagsAsNow[hour] >> man & 1) == 1 : stiff[hour][man] < men[man][2];
    }

    int[] sags(int[][] stiff) {
        int[] bits = new int[hours];
        for (int hour = 0; hour < hours; hour++) {
            for (int man = 0; man < men.length; man++) {
                bits[hour] |= stiff[hour][man] < men[man][2] ? 1 << man : 0;
            }
        }
        return bits;
    }

    int widest(int sags) {
        StringBuilder row = new StringBuilder();
        for (int man : order) {
            row.append((sags >> man & 1) == 1 ? 'x' : ' ');
        }
        int widest = 0;
        while (row.indexOf("x".repeat(widest + 1)) >= 0) {
            widest++;
        }
        return widest;
    }

    int held() {
        int[] sags = sags(play());
        for (int hour = 0; hour < hours; hour++) {
            if (widest(sags[hour]) > gap) {
                return hour;
            }
        }
        return hours;
    }

    int falls() {
        int held = held();
        return held < hours ? held : -1;
    }

    int stood(int man) {
        int stood = 0;
        for (int bits : sags(play())) {
            stood += 1 - (bits >> man & 1);
        }
        return stood;
    }

    int firstSag(int man) {
        int[] sags = sags(play());
        for (int hour = 0; hour < hours; hour++) {
            if ((sags[hour] >> man & 1) == 1) {
                return hour;
            }
        }
        return -1;
    }

    /** {left at the end of each HOUR ..., eaten}; below 0 anywhere, if there are not enough. */
    int[] stocks() {
        int[] left = new int[hours + 1];
        int now = packets;
        for (int hour = 0; hour < hours; hour++) {
            for (int[] act : acts) {
                now -= act[1] == hour ? act[2] : 0;
            }
            if (now < 0) {
                left[hour] = -1;
                return left;
            }
            if (hour == 5 || hour == 11 || hour == 17 || hour == 23) {
                int eaten = Math.min(now, weevils);
                now -= eaten;
                left[hours] += eaten;
            }
            left[hour] = now;
        }
        return left;
    }

    List<int[]> rows(int n) {
        List<int[]> rows = new ArrayList<>();
        addRows(rows, new int[men.length], 0, n);
        return rows;
    }

    private static void addRows(List<int[]> rows, int[] row, int at, int left) {
        if (at == row.length) {
            if (left == 0) {
                rows.add(row.clone());
            }
            return;
        }
        for (int k = 0; k <= left; k++) {
            row[at] = k;
            addRows(rows, row, at + 1, left - k);
        }
    }

    List<int[]> orders() {
        List<int[]> orders = new ArrayList<>();
        addOrders(orders, new int[men.length], 0, 0);
        return orders;
    }

    private static void addOrders(List<int[]> orders, int[] order, int at, int used) {
        if (at == order.length) {
            orders.add(order.clone());
            return;
        }
        for (int man = 0; man < order.length; man++) {
            if ((used >> man & 1) == 0) {
                order[at] = man;
                addOrders(orders, order, at + 1, used | 1 << man);
            }
        }
    }

    /** {fewest HOURS, least set} of ironing besides, or {-1, -1}. */
    int[] ironing(int man) {
        Model m = copy();
        m.sagsAsNow = sags(play());
        m.ironMan = man;
        int[] best = {-1, -1};
        for (int set = 0; set < 1 << hours; set++) {
            if (best[0] >= 0 && Integer.bitCount(set) >= best[0]) {
                continue;
            }
            m.ironHours = set;
            if (m.stood(man) == hours) {
                best = new int[] {Integer.bitCount(set), set};
            }
        }
        return best;
    }

    /** A mean over DAMP of the HOURS ahead of one: of whether a MAN STANDS (0), the LINE HOLDS (1), his STIFF (2). */
    long[] mean(int kind, int man, int hour) {
        Model m = copy();
        BigInteger above = BigInteger.ZERO;
        for (int d = 0; d < 1 << hour; d++) {
            m.damp = d;
            int wet = Integer.bitCount(d);
            BigInteger weight = BigInteger.valueOf(odds).pow(wet).multiply(BigInteger.valueOf(10 - odds).pow(hour - wet));
            int value;
            if (kind == 1) {
                value = m.held() > hour ? 1 : 0;
            } else {
                int s = m.play()[hour][man];
                value = kind == 2 ? s : s >= men[man][2] ? 1 : 0;
            }
            above = above.add(weight.multiply(BigInteger.valueOf(value)));
        }
        BigInteger below = BigInteger.TEN.pow(hour);
        BigInteger gcd = above.gcd(below);
        return new long[] {above.divide(gcd).longValueExact(), below.divide(gcd).longValueExact()};
    }

    int drawn(int seed) {
        BigInteger x = BigInteger.valueOf(seed);
        int bits = 0;
        for (int hour = 0; hour < hours; hour++) {
            x = x.multiply(BigInteger.valueOf(1103515245)).add(BigInteger.valueOf(12345)).mod(BigInteger.valueOf(2147483648L));
            bits |= x.intValueExact() / 65536 % 10 < odds ? 1 << hour : 0;
        }
        return bits;
    }
}
