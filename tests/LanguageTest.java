import java.io.IOException;
import java.nio.file.Files;
import java.nio.file.Path;
import java.util.ArrayDeque;
import java.util.ArrayList;
import java.util.Deque;
import java.util.List;
import java.util.Map;
import java.util.Set;
import java.util.TreeMap;
import java.util.TreeSet;
import java.util.regex.Matcher;
import java.util.regex.Pattern;

/** Those rules of LANGUAGE.md that can be seen in the source itself. */
public final class LanguageTest {
    private static final Set<String> LIBRARY = Set.of("Arrays.fill", "Arrays.copyOf", "Arrays.copyOfRange",
        "System.arraycopy", "Math.max", "Math.min", "Math.abs", "Math.floorMod", "Math.floorDiv", "Integer.compare",
        "Integer.bitCount", "Long.compare", "Long.MIN_VALUE", "Long.MAX_VALUE", "Integer.MAX_VALUE", "java.util");
    private static final String[] BANNED = {"\\bthrow\\b", "\\btry\\b", "\\bcatch\\b", "\\bsynchronized\\b", "\\bassert\\b",
        "->", "::", "@", "\\bprotected\\b", "\\bpackage\\b", "\\bnative\\b", "\\bvolatile\\b", "\\bvar\\b", "%", "[^*/]/[^*/]"};

    public static void main(String[] args) throws IOException {
        Due d = new Due("language");
        String source = Files.readString(Path.of("src/main/java/PillowRows.java"));
        d.holds("signs 1 to 127", source.chars().allMatch(c -> c > 0 && c < 128));
        String code = bare(source);
        for (String banned : BANNED) {
            d.holds("nothing like " + banned, !Pattern.compile(banned).matcher(code).find());
        }
        imports(d, code);
        library(d, code);
        statics(d, code);
        methods(d, code);
        depth(d, code);
        d.end();
    }

    /** The source without its comments and texts, its lines kept. */
    private static String bare(String source) {
        return source.replaceAll("(?m)//.*$", "").replaceAll("(?s)/\\*.*?\\*/", "").replaceAll("\"[^\"]*\"", "\"\"");
    }

    private static void imports(Due d, String code) {
        Matcher m = Pattern.compile("import ([\\w.]+);").matcher(code);
        while (m.find()) {
            d.holds("import " + m.group(1), Set.of("java.util.Arrays", "java.util.ArrayList", "java.util.List").contains(m.group(1)));
        }
    }

    private static void library(Due d, String code) {
        Matcher m = Pattern.compile("\\b(Arrays|System|Math|Integer|Long|java)\\.\\w+").matcher(code);
        while (m.find()) {
            d.holds("library " + m.group(), LIBRARY.contains(m.group()));
        }
    }

    private static void statics(Due d, String code) {
        for (String line : code.split("\n")) {
            boolean isField = line.matches(".*\\bstatic\\b.*[=;].*") && !line.contains("(") || line.matches("\\s*static \\{.*");
            d.holds("static is final: " + line.trim(), !isField || line.contains("final"));
        }
    }

    /** A method or a constructor. */
    private static final class Body {
        final String head;
        final String name;
        final int parameters;
        final int lines;
        final String code;

        Body(String head, Matcher m, List<String> of) {
            this.head = head.trim();
            name = m.group(1);
            parameters = m.group(2).split(",").length;
            lines = of.size();
            code = String.join("\n", of);
        }
    }

    private static List<Body> bodies(String code) {
        Pattern head = Pattern.compile("^\\s+(?!return|else|new)[\\w\\[\\] ]+ (\\w+)\\(([^()]*)\\) \\{$");
        List<String> lines = List.of(code.split("\n"));
        List<Body> found = new ArrayList<>();
        for (int at = 0; at < lines.size(); at++) {
            Matcher m = head.matcher(lines.get(at));
            if (m.matches()) {
                String indent = lines.get(at).replaceAll("\\S.*", "");
                int end = at;
                while (end < lines.size() && !lines.get(end).equals(indent + "}")) {
                    end++;
                }
                found.add(new Body(lines.get(at), m, lines.subList(at + 1, end)));
            }
        }
        return found;
    }

    private static void methods(Due d, String code) {
        List<Body> found = bodies(code);
        for (Body b : found) {
            d.holds("at most sixty lines: " + b.head, b.lines <= 60);
            d.holds("at most seven parameters: " + b.head, b.parameters <= 7);
        }
        d.holds("methods were found", found.size() > 60);
    }

    /** Rules 8 and 11: no method comes back to itself, and calls go at most eight deep, the library's among them. */
    private static void depth(Due d, String code) {
        Map<String, Set<String>> calls = new TreeMap<>();
        Map<String, Integer> supers = new TreeMap<>();
        for (Body b : bodies(code)) {
            Matcher m = Pattern.compile("(super\\.)?\\b(\\w+)\\(").matcher(b.code);
            Set<String> called = calls.computeIfAbsent(b.name, name -> new TreeSet<>());
            while (m.find()) {
                if (m.group(1) != null) {
                    // up the kinds, of which there are three: two more bodies at the most
                    supers.put(b.name, 2);
                } else if (!Set.of("if", "for", "while", "switch", "super").contains(m.group(2))) {
                    called.add(m.group(2));
                }
            }
        }
        for (String name : calls.keySet()) {
            int deep = deep(name, calls, supers, new ArrayDeque<>());
            d.holds("at most eight deep: " + name + " goes " + deep, deep <= 8);
        }
        d.holds("calls were found", calls.get("send").contains("wonBothWays") && calls.get("spread").contains("behindBlow"));
    }

    private static int deep(String name, Map<String, Set<String>> calls, Map<String, Integer> supers, Deque<String> open) {
        if (open.contains(name)) {
            return 1000;
        }
        open.push(name);
        int most = 0;
        for (String called : calls.getOrDefault(name, Set.of())) {
            most = Math.max(most, deep(called, calls, supers, open));
        }
        open.pop();
        return 1 + supers.getOrDefault(name, 0) + most;
    }
}
