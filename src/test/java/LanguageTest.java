import java.nio.file.Files;
import java.nio.file.Path;
import java.util.ArrayList;
import java.util.List;
import java.util.TreeSet;
import java.util.regex.Matcher;
import java.util.regex.Pattern;

/** The rules of LANGUAGE.md that can be seen in the text of the class, and the face that DOC.md tells. */
public final class LanguageTest {
    private static final Checks checks = new Checks();

    public static void main(String[] args) throws Exception {
        String source = Files.readString(Path.of("src/main/java/StarchGarrison.java"));
        String code = source.replaceAll("(?s)/\\*.*?\\*/", "").replaceAll("//[^\n]*", "");
        for (String word : new String[] {"throw", "try", "catch", "synchronized", "assert", "package", "protected", "native", "var",
            "volatile", "System.out", "->", "::", "hashCode", "toString", "Object", "Random", "MAX_VALUE", "MIN_VALUE", "Exact"}) {
            String bounded = Character.isLetter(word.charAt(0)) ? "\\b" + Pattern.quote(word) + "\\b" : Pattern.quote(word);
            checks.due("times that '" + word + "' stands in the class", count(bounded, code), 0);
        }
        checks.due("imports beside Arrays", count("\\bimport (?!java\\.util\\.Arrays;)", code), 0);
        checks.due("static fields that are not final", count("(?m)^\\s*(private )?static (?!final)[^({]*;", code), 0);
        checks.due("members that are not private or public", count("(?m)^    (?!private|public|\\s|\\})\\S", code), 0);
        checks.due("characters beyond 127", source.chars().filter(c -> c > 127).count(), 0);
        names(code);
        face(code);
        checks.finish("LanguageTest");
    }

    private static int count(String pattern, String text) {
        Matcher matcher = Pattern.compile(pattern).matcher(text);
        int times = 0;
        while (matcher.find()) {
            times++;
        }
        return times;
    }

    private static List<String> all(String pattern, String text) {
        List<String> found = new ArrayList<>();
        Matcher matcher = Pattern.compile(pattern).matcher(text);
        while (matcher.find()) {
            found.add(matcher.group(1));
        }
        return found;
    }

    private static void names(String code) {
        TreeSet<String> shared = new TreeSet<>(all("(?m)^ +private (?:static )?[\\w\\[\\]]+ (\\w+)\\(", code));
        shared.retainAll(all("(?m)^    public (?:int|long) (\\w+)\\(", code));
        checks.due("private methods with a public one's name: " + shared, shared.size(), 0);
        for (String parameters : all("(?m)^ +(?:public|private) [^=;]*\\(([^()]*)\\) \\{$", code)) {
            checks.due("more than seven parameters: " + parameters, parameters.split(",").length > 7 ? 1 : 0, 0);
        }
    }

    private static void face(String code) throws Exception {
        Path doc = Path.of("../shared/DOC.md");
        if (!Files.exists(doc)) {
            return;
        }
        List<String> told = all("(?m)^    (public [^;=]*\\))", Files.readString(doc));
        List<String> written = all("(?m)^    (public [^;={]*\\))", code);
        checks.due("methods told", told.size(), 73);
        TreeSet<String> different = new TreeSet<>(told);
        different.removeAll(written);
        checks.due("not as told: " + different, different.size(), 0);
        checks.due("methods written", written.size(), told.size());
    }
}
