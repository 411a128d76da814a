import java.io.IOException;
import java.nio.file.Files;
import java.nio.file.Path;
import java.util.ArrayList;
import java.util.List;
import java.util.Set;
import java.util.regex.Matcher;
import java.util.regex.Pattern;

/** Those rules of LANGUAGE.md that can be seen in the source itself. */
public final class LanguageTest {
    private static final Set<String> LIBRARY = Set.of("Arrays.fill", "Arrays.copyOf", "Arrays.copyOfRange",
        "System.arraycopy", "Math.max", "Math.min", "Math.abs", "Math.floorMod", "Math.floorDiv", "Integer.compare",
        "Integer.bitCount", "Long.compare", "Long.MIN_VALUE", "Long.MAX_VALUE", "Integer.MAX_VALUE", "java.util");
    private static final String[] BANNED = {"\\bthrow\\b", "\\btry\\b", "\\bcatch\\b", "\\bsynchronized\\b", "\\bassert\\b",
        "->", "::", "@", "\\bprotected\\b", "\\bpackage\\b", "\\bnative\\b", "\\bvolatile\\b", "\\bvar\\b", "%", "[^*/]/[^*/]"};

    public static void main(String[] args) throws IOException {
        Due d = new Due("language");
        String source = Files.readString(Path.of("src/main/java/PillowRows.java"));
        d.holds("signs 1 to 127", source.chars().allMatch(c -> c > 0 && c < 128));
        String code = bare(source);
        for (String banned : BANNED) {
            d.holds("nothing like " + banned, !Pattern.compile(banned).matcher(code).find());
        }
        imports(d, code);
        library(d, code);
        statics(d, code);
        methods(d, code);
        d.end();
    }

    /** The source without its comments and texts, its lines kept. */
    private static String bare(String source) {
        return source.replaceAll("(?m)//.*$", "").replaceAll("(?s)/\\*.*?\\*/", "").replaceAll("\"[^\"]*\"", "\"\"");
    }

    private static void imports(Due d, String code) {
        Matcher m = Pattern.compile("import ([\\w.]+);").matcher(code);
        while (m.find()) {
            d.holds("import " + m.group(1), Set.of("java.util.Arrays", "java.util.ArrayList", "java.util.List").contains(m.group(1)));
        }
    }

    private static void library(Due d, String code) {
        Matcher m = Pattern.compile("\\b(Arrays|System|Math|Integer|Long|java)\\.\\w+").matcher(code);
        while (m.find()) {
            d.holds("library " + m.group(), LIBRARY.contains(m.group()));
        }
    }

    private static void statics(Due d, String code) {
        for (String line : code.split("\n")) {
            boolean isField = line.matches(".*\\bstatic\\b.*[=;].*") && !line.contains("(") || line.matches("\\s*static \\{.*");
            d.holds("static is final: " + line.trim(), !isField || line.contains("final"));
        }
    }

    private static void methods(Due d, String code) {
        Pattern head = Pattern.compile("^\\s+(?!return|else|new)[\\w\\[\\] ]+ \\w+\\(([^()]*)\\) \\{$");
        List<String> lines = new ArrayList<>(List.of(code.split("\n")));
        int seen = 0;
        for (int at = 0; at < lines.size(); at++) {
            Matcher m = head.matcher(lines.get(at));
            if (!m.matches()) {
                continue;
            }
            seen++;
            String indent = lines.get(at).replaceAll("\\S.*", "");
            int end = at;
            while (end < lines.size() && !lines.get(end).equals(indent + "}")) {
                end++;
            }
            d.holds("at most sixty lines: " + lines.get(at).trim(), end - at <= 60);
            d.holds("at most seven parameters: " + lines.get(at).trim(), m.group(1).split(",").length <= 7);
        }
        d.holds("methods were found", seen > 60);
    }
}
