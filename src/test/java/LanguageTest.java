import java.io.IOException;
import java.nio.file.Files;
import java.nio.file.Path;
import java.util.regex.Matcher;
import java.util.regex.Pattern;

/** What a look at the text of the program can tell of the rules of LANGUAGE.md. */
public final class LanguageTest {
    private static final Due DUE = new Due("LanguageTest");
    private static final Path PROGRAM = Path.of("src/main/java/ExampleDrawers.java");
    private static final int LONGEST_METHOD = 60;

    public static void main(String[] args) throws IOException {
        String code = withoutComments(Files.readString(PROGRAM));
        DUE.part("rules 2, 5, 6, 13");
        String[] words = {"throw", "throws", "try", "catch", "finally", "synchronized", "assert",
            "import", "package", "extends", "protected", "native", "volatile", "transient", "var",
            "yield", "System", "Thread", "Random", "String", "Object", "Arrays"};
        for (String word : words) {
            DUE.holds("no " + word, !Pattern.compile("\\b" + word + "\\b").matcher(code).find());
        }
        DUE.holds("no lambda", !code.contains("->"));
        DUE.holds("no method reference", !code.contains("::"));
        DUE.holds("no text", code.indexOf('"') < 0);
        DUE.holds("no static block", !Pattern.compile("static\\s*\\{").matcher(code).find());
        DUE.holds("signs below 128 alone", code.chars().allMatch(sign -> sign < 128));
        statics(code);
        places(code);
        lengths(code);
        DUE.end();
    }

    private static String withoutComments(String source) {
        return source.replaceAll("(?s)/\\*.*?\\*/", "").replaceAll("//[^\n]*", "");
    }

    private static void statics(String code) {
        DUE.part("rule 5");
        Matcher matcher = Pattern.compile("static (?!final)[^;(]*;").matcher(code);
        DUE.holds("static fields are final", !matcher.find());
    }

    /** Arrays and divisors stand where their index or their size was looked at. */
    private static void places(String code) {
        DUE.part("rule 7");
        int end = code.indexOf("class Example ");
        int start = code.indexOf("class Numbers ");
        DUE.holds("the class of the arrays is there", start > 0 && end > start);
        String outside = code.substring(0, start) + code.substring(end);
        DUE.holds("arrays are in Numbers alone", outside.indexOf('[') < 0);
        Matcher divisor = Pattern.compile("[/%]\\s*(\\w+)").matcher(code);
        while (divisor.find()) {
            String by = divisor.group(1);
            DUE.holds(by + " is a constant", by.equals("MOST_CARDS") || by.equals("MOST_COLUMNS"));
        }
        DUE.holds("no casts", !Pattern.compile("\\((int|long|char|[A-Z]\\w+)\\) ?\\w").matcher(code)
                .find());
    }

    private static void lengths(String code) {
        DUE.part("rule 11");
        Pattern head = Pattern.compile("( +)[\\w ]+\\(([\\w ,]*)\\) \\{");
        String[] lines = code.split("\n");
        int methods = 0;
        for (int first = 0; first < lines.length; first++) {
            Matcher matcher = head.matcher(lines[first]);
            if (!matcher.matches()) {
                continue;
            }
            int last = first;
            while (!lines[last].equals(matcher.group(1) + "}")) {
                last++;
            }
            String name = lines[first].trim();
            DUE.holds("few parameters: " + name, matcher.group(2).split(",").length <= 7);
            DUE.holds("short: " + name, last - first <= LONGEST_METHOD);
            methods++;
        }
        DUE.holds("methods were found", methods > 24);
    }
}
