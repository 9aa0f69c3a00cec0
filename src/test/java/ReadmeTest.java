import java.io.File;
import java.lang.reflect.Method;
import java.lang.reflect.Modifier;
import java.nio.charset.StandardCharsets;
import java.nio.file.Files;
import java.nio.file.Paths;
import java.util.regex.Matcher;
import java.util.regex.Pattern;

/** README.md says how to use the class: its town is told, and its calls answer what it says. */
public final class ReadmeTest {
    private static final Check CHECK = new Check("ReadmeTest");
    private static final int FEWEST_CALLS = 30;

    public static void main(String[] args) throws Exception {
        String page = Files.readString(Paths.get("README.md"), StandardCharsets.UTF_8);
        CardBowl x = new CardBowl();
        CHECK.due("the town of README.md", Check.town(x, block(page, "text")), 3);
        calls(page, x);
        names(page);
        tests(page);
        CHECK.finish();
    }

    private static String block(String page, String kind) {
        Matcher m = Pattern.compile("(?s)```" + kind + "\n(.*?)```").matcher(page);
        return m.find() ? m.group(1) : "";
    }

    private static void calls(String page, CardBowl x) throws Exception {
        Matcher m = Pattern.compile("(?m)^x\\.(\\w+)\\(([-0-9, ]*)\\); +// (-?[0-9]+):").matcher(page);
        int found = 0;
        while (m.find()) {
            found++;
            String call = m.group(1) + "(" + m.group(2) + ")";
            CHECK.due(call + " of README.md", answer(x, m.group(1), m.group(2)), Long.parseLong(m.group(3)));
        }
        CHECK.isTrue("README.md has calls with their answers", found >= FEWEST_CALLS);
    }

    private static long answer(CardBowl x, String name, String list) throws Exception {
        String[] told = list.isEmpty() ? new String[0] : list.split(", ");
        for (Method m : CardBowl.class.getDeclaredMethods()) {
            if (!m.getName().equals(name) || m.getParameterCount() != told.length) {
                continue;
            }
            Object[] values = new Object[told.length];
            for (int i = 0; i < told.length; i++) {
                values[i] = m.getParameterTypes()[i] == long.class ? (Object) Long.valueOf(told[i]) : Integer.valueOf(told[i]);
            }
            return (Integer) m.invoke(x, values);
        }
        throw new IllegalStateException("README.md calls " + name + " with " + told.length + " numbers");
    }

    private static void names(String page) {
        for (Method m : CardBowl.class.getDeclaredMethods()) {
            if (Modifier.isPublic(m.getModifiers())) {
                CHECK.isTrue("README.md names " + m.getName(), page.contains("`" + m.getName() + "`"));
            }
        }
    }

    private static void tests(String page) {
        String[] files = new File("src/test/java").list();
        for (String file : files == null ? new String[0] : files) {
            if (file.endsWith("Test.java")) {
                String name = file.substring(0, file.length() - ".java".length());
                CHECK.isTrue("README.md names " + name, Pattern.compile("\\b" + name + "\\b").matcher(page).find());
            }
        }
    }
}
