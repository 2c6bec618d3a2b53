import java.math.BigInteger;
import java.util.ArrayList;
import java.util.List;
import java.util.Random;
import java.util.regex.Matcher;
import java.util.regex.Pattern;

/** Promises 4 and 5: texts with something changed by chance, their FAULTS held against a plain reader's. */
public final class FaultTest {
    private static final int TEXTS = 20000;
    private static final Pattern TOKEN = Pattern.compile("[a-z]+|[0-9]+|[^ \n]");
    private static final String[] TOKENS = {"garrison", "man", "rain", "heat", "frost", "boiled", "from", "to", "stiff", ";", "?",
        "0", "1", "3", "4", "9", "10", "23", "24", "60", "61", "99", "100", "4294967296", "00000000000000001", "hours", "a", "M",
        "" + (char) 0, "" + (char) 200};
    private static final String[] FORMS = {"hours 1-24 law 0-3 gap 0-3 packets 0-60 weevils 0-9 odds 0-10 ;",
        "stiff 0-99 sweat 0-9 needs 1-60 ;", "1-9 from 0-23 to -23 ;", "1-3 from 0-23 to -23 ;", "from 0-23 to -23 ;"};
    private static final int[] MOST_LINES = {1, 6, 3, 3, 3};
    private static final Checks checks = new Checks();

    public static void main(String[] args) {
        int faults = 0;
        for (int seed = 0; seed < TEXTS; seed++) {
            Random random = new Random(seed);
            String text = changed(Model.random(random).text(random), random);
            if (text.length() > 800) {
                continue;
            }
            int[] want = read(text);
            StarchGarrison x = new StarchGarrison();
            Checks.put(x, text);
            checks.due("garrison of " + text, x.garrison(), want[0] == 0 ? want[2] : -4);
            checks.due("fault of " + text, x.fault(0), want[0]);
            checks.due("place of " + text, x.fault(1), want[1]);
            faults += want[0] == 0 ? 0 : 1;
        }
        checks.due("some faults", faults > TEXTS / 10 ? 1 : 0, 1);
        checks.due("some without", faults < TEXTS * 9 / 10 ? 1 : 0, 1);
        checks.finish("FaultTest");
    }

    private static String changed(String text, Random random) {
        if (random.nextInt(8) == 0) {
            text = text + "man stiff 1 sweat 1 needs 1;".repeat(random.nextInt(5)) + "frost from 1 to 2;".repeat(random.nextInt(3));
        }
        int changes = random.nextInt(3);
        for (int i = 0; i < changes; i++) {
            List<int[]> places = new ArrayList<>();
            Matcher matcher = TOKEN.matcher(text);
            while (matcher.find()) {
                places.add(new int[] {matcher.start(), matcher.end()});
            }
            if (places.isEmpty()) {
                return text;
            }
            int[] place = places.get(random.nextInt(places.size()));
            String put = TOKENS[random.nextInt(TOKENS.length)];
            int kind = random.nextInt(5);
            if (kind == 0) {
                text = text.substring(0, place[0]);
            } else if (kind == 1) {
                text = text.substring(0, place[0]) + text.substring(place[1]);
            } else if (kind == 2) {
                text = text.substring(0, place[0]) + put + " " + text.substring(place[0]);
            } else {
                text = text.substring(0, place[0]) + put + text.substring(place[1]);
            }
        }
        return text;
    }

    /** {fault, place or -1, lines}. */
    private static int[] read(String text) {
        List<String> tokens = new ArrayList<>();
        List<Integer> places = new ArrayList<>();
        Matcher matcher = TOKEN.matcher(text);
        while (matcher.find()) {
            tokens.add(matcher.group());
            places.add(matcher.start());
        }
        tokens.add("");
        places.add(text.length());
        int[] words = new int[5];
        int lines = 0;
        int at = 0;
        while (!tokens.get(at).isEmpty()) {
            int kind = List.of("garrison", "man", "rain", "heat", "frost").indexOf(tokens.get(at));
            if (kind < 0 || (lines == 0) != (kind == 0)) {
                return new int[] {1, places.get(at), 0};
            }
            words[kind]++;
            if (words[kind] > MOST_LINES[kind]) {
                return new int[] {3, places.get(at), 0};
            }
            String[] form = FORMS[kind].split(" ");
            int last = 0;
            for (String due : form) {
                at++;
                if (due.equals(";") && kind == 1 && tokens.get(at).equals("boiled")) {
                    at++;
                }
                String token = tokens.get(at);
                if (!due.contains("-")) {
                    if (!token.equals(due)) {
                        return new int[] {1, places.get(at), 0};
                    }
                    continue;
                }
                if (!token.matches("[0-9]+")) {
                    return new int[] {1, places.get(at), 0};
                }
                int low = due.startsWith("-") ? last : Integer.parseInt(due.substring(0, due.indexOf('-')));
                int high = Integer.parseInt(due.substring(due.indexOf('-') + 1));
                BigInteger number = new BigInteger(token);
                if (number.compareTo(BigInteger.valueOf(low)) < 0 || number.compareTo(BigInteger.valueOf(high)) > 0) {
                    return new int[] {2, places.get(at), 0};
                }
                last = number.intValue();
            }
            at++;
            lines++;
        }
        return new int[] {0, -1, lines};
    }
}
