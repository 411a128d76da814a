import java.io.IOException;
import java.nio.file.Files;
import java.nio.file.Path;
import java.util.regex.Matcher;
import java.util.regex.Pattern;

/** The example of README.md answers what stands behind its calls; its tables name each call and each test. */
public final class ReadmeTest {
    private static final Pattern CALL = Pattern.compile("x\\.(\\w+)\\(([^;]*)\\);\\s*(?://\\s*(LOST|-?\\d+):)?.*");

    public static void main(String[] args) throws IOException {
        Due d = new Due("README.md");
        String readme = Files.readString(Path.of("README.md"));
        example(d, readme);
        tables(d, readme);
        d.end();
    }

    private static void example(Due d, String readme) {
        Matcher block = Pattern.compile("(?s)```java\n(.*?)```").matcher(readme);
        d.holds("an example", block.find());
        Matcher told = Pattern.compile("String text = \"([^\"]*)\"").matcher(block.group(1));
        d.holds("its TEXT", told.find());
        String text = told.group(1);
        PillowRows x = new PillowRows();
        int answered = 0;
        for (String line : block.group(1).split("\n")) {
            Matcher call = CALL.matcher(line.trim());
            if (!call.matches()) {
                continue;
            }
            if (call.group(2).contains("charAt")) {
                Due.write(x, 0, 0, text);
                continue;
            }
            String numbers = call.group(2).replace("text.length()", Integer.toString(text.length())).replace(",", "");
            long got = Ask.of(x, (call.group(1) + " " + numbers).trim());
            if (call.group(3) != null) {
                answered++;
                d.due(line, got, call.group(3).equals("LOST") ? PillowRows.LOST : Long.parseLong(call.group(3)));
            }
        }
        d.holds("answers were found", answered > 10);
    }

    private static void tables(Due d, String readme) throws IOException {
        for (java.lang.reflect.Method m : PillowRows.class.getDeclaredMethods()) {
            if (java.lang.reflect.Modifier.isPublic(m.getModifiers())) {
                d.holds("call " + m.getName(), readme.contains("`" + m.getName() + "`"));
            }
        }
        try (java.util.stream.Stream<Path> files = Files.list(Path.of("tests"))) {
            files.map(f -> f.getFileName().toString().replace(".java", "")).filter(name -> name.endsWith("Test"))
                .forEach(name -> d.holds("test " + name, readme.contains("| " + name + " |")));
        }
    }
}
