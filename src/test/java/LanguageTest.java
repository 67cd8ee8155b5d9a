import java.io.IOException;
import java.nio.file.Files;
import java.nio.file.Path;
import java.util.HashSet;
import java.util.List;
import java.util.Set;
import java.util.regex.Matcher;
import java.util.regex.Pattern;

/** Those rules of ../shared/LANGUAGE.md that can be seen in the text of the class. */
public final class LanguageTest {
    private static final Path SOURCE = Path.of("src", "main", "java", "SavepointStore.java");
    private static final String[] NOT_TO_STAND = {"import", "package", "try", "catch", "finally", "throw",
        "throws", "synchronized", "assert", "instanceof", "yield", "goto", "float", "var", "volatile"};
    private static final Pattern METHOD =
            Pattern.compile("^ +(?:private|public) (?:static )?[\\w\\[\\]]+ (\\w+)\\((.*)\\) \\{$");
    private static final Set<String> LIBRARY =
            Set.of("Math.max", "Math.min", "Integer.bitCount", "System.arraycopy");

    private LanguageTest() {
    }

    public static void main(String[] args) throws IOException {
        Checks checks = new Checks();
        List<String> lines = Files.readAllLines(SOURCE);
        String code = String.join("\n", lines).replaceAll("(?s)/\\*.*?\\*/", "").replaceAll("//[^\n]*", "");
        for (String word : NOT_TO_STAND) {
            checks.holds("the word " + word + " does not stand in the code",
                    !Pattern.compile("\\b" + word + "\\b").matcher(code).find());
        }
        checks.holds("no lambda, no method reference", !code.contains("->") && !code.contains("::"));
        checks.holds("only characters 1 to 127", code.chars().allMatch(c -> c > 0 && c < 128));

        Matcher library = Pattern.compile("\\b(Math|Integer|Long|System|Arrays|String|List)\\.\\w+").matcher(code);
        while (library.find()) {
            checks.holds(library.group() + " is allowed", LIBRARY.contains(library.group()));
        }
        Matcher statics = Pattern.compile("\\bstatic [^({;=]*[;=]").matcher(code);
        while (statics.find()) {
            checks.holds(statics.group() + " is final", statics.group().startsWith("static final "));
        }
        checks.holds("some twelve classes at most", code.split("\\bclass ").length - 1 <= 12);
        methods(checks, lines);
        checks.end();
    }

    private static void methods(Checks checks, List<String> lines) {
        Set<String> publicNames = new HashSet<>();
        Set<String> privateNames = new HashSet<>();
        for (int i = 0; i < lines.size(); i++) {
            Matcher method = METHOD.matcher(lines.get(i));
            if (!method.matches()) {
                continue;
            }
            String name = method.group(1);
            (lines.get(i).contains("public") ? publicNames : privateNames).add(name);
            checks.holds(name + " takes at most seven parameters", method.group(2).split(",").length <= 7);
            String end = lines.get(i).replaceAll("\\S.*", "") + "}";
            int length = 1;
            while (i + length < lines.size() && !lines.get(i + length).equals(end)) {
                length++;
            }
            checks.holds(name + " is short: " + length, length <= 60);
        }
        checks.due("the public methods", publicNames.size(), 30);
        checks.holds("there are private methods", privateNames.size() > 30);
        privateNames.retainAll(publicNames);
        checks.holds("no private method bears the name of a public one: " + privateNames, privateNames.isEmpty());
    }
}
