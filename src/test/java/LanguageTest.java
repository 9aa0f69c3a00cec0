import java.nio.file.Files;
import java.nio.file.Path;
import java.nio.file.Paths;
import java.util.regex.Matcher;
import java.util.regex.Pattern;

/** What can be seen of ../shared/LANGUAGE.md in the text of the class itself. */
public final class LanguageTest {
    private static final Check CHECK = new Check("LanguageTest");

    public static void main(String[] args) throws Exception {
        Path file = Paths.get("src/main/java/CardBowl.java");
        String bare = Files.readString(file).replaceAll("(?s)/\\*.*?\\*/", "").replaceAll("//[^\n]*", "")
            .replaceAll("\"[^\"\n]*\"", "\"\"").replaceAll("'[^'\n]*'", "' '");
        String[] words = {"throw", "try", "catch", "finally", "synchronized", "assert", "instanceof", "package", "double",
            "float", "volatile", "native", "protected", "abstract", "var", "Object", "Thread", "Random", "hashCode", "toString"};
        for (String word : words) {
            CHECK.isTrue("no " + word, !Pattern.compile("\\b" + word + "\\b").matcher(bare).find());
        }
        CHECK.isTrue("no lambda, no method reference", !bare.contains("->") && !bare.contains("::"));
        CHECK.isTrue("nothing that ends in Exact", !bare.contains("Exact("));
        CHECK.isTrue("one import", bare.replaceAll("import java.util.Arrays;", "").indexOf("import ") < 0);
        libraryCalls(bare);
        methods(bare);
        Matcher classes = Pattern.compile("\\bclass \\w+").matcher(bare);
        int found = 0;
        while (classes.find()) {
            found++;
        }
        CHECK.isTrue(found + " classes, twelve at most", found <= 12);
        CHECK.finish();
    }

    private static void libraryCalls(String bare) {
        Matcher m = Pattern.compile("\\b(Math|Integer|Long|Arrays|System)\\.(\\w+)").matcher(bare);
        while (m.find()) {
            String call = m.group();
            CHECK.isTrue(call + " is in the list", call.matches(
                "Math\\.(min|max|abs)|Integer\\.(bitCount|numberOfTrailingZeros)|Arrays\\.fill|System\\.arraycopy"));
        }
    }

    private static void methods(String bare) {
        String[] lines = bare.split("\n", -1);
        Pattern head = Pattern.compile("^( {4}| {8})(?:\\w+ )*[\\w\\[\\]]+ (\\w+)\\(([^)]*)\\) \\{$");
        for (int i = 0; i < lines.length; i++) {
            Matcher m = head.matcher(lines[i]);
            if (!m.matches()) {
                continue;
            }
            int end = i;
            while (end < lines.length - 1 && !lines[end].equals(m.group(1) + "}")) {
                end++;
            }
            CHECK.isTrue(m.group(2) + " is short", end - i < 60);
            CHECK.isTrue(m.group(2) + " takes seven at most", m.group(3).split(",").length <= 7);
        }
    }
}
