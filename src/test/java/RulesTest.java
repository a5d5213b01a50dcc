import java.io.IOException;
import java.nio.file.Files;
import java.nio.file.Path;
import java.util.ArrayList;
import java.util.HashSet;
import java.util.List;
import java.util.Set;
import java.util.regex.Matcher;
import java.util.regex.Pattern;

/** What of LANGUAGE.md can be seen from the text of the class: its words, its lengths, its face. */
public final class RulesTest {
    private static final Checks checks = new Checks();
    private static final List<String> BANNED = List.of("\\btry\\b", "\\bcatch\\b", "\\bfinally\\b", "->", "::", "\\bassert\\b",
            "\\bsynchronized\\b", "\\bdouble\\b", "\\bfloat\\b", "\\bpackage\\b", "Exact\\(", "\\bprotected\\b", "\\bObject\\b",
            "\\bvar\\b", "System\\.(?!arraycopy)", "\\bThread\\b", "\\binstanceof\\b", "\\[\\]\\[\\]", "\\bvolatile\\b", "while \\(true\\)",
            "\\brecord\\b", "\\bString\\.", "static (?!final)(?!.*[({])", "NullPointer", "ArrayIndex", "ClassCast");

    public static void main(String[] args) throws IOException {
        Path file = Path.of(args.length > 0 ? args[0] : ".", "src/main/java/DrawingBars.java");
        String source = Files.readString(file);
        String code = source.replaceAll("(?s)/\\*.*?\\*/", "").replaceAll("//[^\n]*", "");
        for (String banned : BANNED) {
            checks.same("not allowed: " + banned, Pattern.compile(banned).matcher(code).find(), false);
        }
        checks.same("signs 1 to 127", source.chars().allMatch(c -> c > 0 && c < 128), true);
        imports(code);
        classes(code);
        methods(code);
        face();
        checks.end();
    }

    private static void imports(String code) {
        Matcher m = Pattern.compile("import ([^;]+);").matcher(code);
        while (m.find()) {
            checks.same("import " + m.group(1), m.group(1).equals("java.util.NoSuchElementException"), true);
        }
    }

    private static void classes(String code) {
        Matcher m = Pattern.compile("\\bclass (\\w+)").matcher(code);
        int count = 0;
        while (m.find()) {
            count++;
        }
        checks.same("at most twelve classes", count <= 12, true);
        String[] bodies = code.split("\\bclass \\w+ \\{");
        for (String body : bodies) {
            Matcher field = Pattern.compile("private (?!static)(?:final )?[\\w\\[\\]]+ (\\w+)(?: =[^;]*)?;").matcher(body);
            int fields = 0;
            while (field.find()) {
                fields++;
            }
            checks.same("at most twenty fields", fields <= 20, true);
        }
    }

    private static void methods(String code) {
        Set<String> face = new HashSet<>();
        List<String> inner = new ArrayList<>();
        Matcher m = Pattern.compile("(?m)^( +)(public|private)(?: static)?(?: final)? ([\\w\\[\\]]+) (\\w+)\\(([^)]*)\\)[^{;]*\\{")
                .matcher(code);
        while (m.find()) {
            if (m.group(2).equals("public")) {
                face.add(m.group(4));
            } else {
                inner.add(m.group(4));
            }
            String end = "\n" + m.group(1) + "}\n";
            int lines = code.substring(m.start(), code.indexOf(end, m.start())).split("\n").length + 1;
            checks.same(m.group(4) + " is short", lines <= 60, true);
            checks.same(m.group(4) + " has at most seven parameters", m.group(5).split(",").length <= 7, true);
        }
        for (String name : inner) {
            checks.same("private " + name + " bears no public name", face.contains(name), false);
        }
        checks.same("methods of the face", face.size(), 35);
    }

    private static void face() {
        int mine = 0;
        for (java.lang.reflect.Method method : DrawingBars.class.getDeclaredMethods()) {
            int modifiers = method.getModifiers();
            mine += java.lang.reflect.Modifier.isPublic(modifiers) ? 1 : 0;
            checks.same(method + " is public or private", java.lang.reflect.Modifier.isPublic(modifiers)
                    || java.lang.reflect.Modifier.isPrivate(modifiers), true);
        }
        checks.same("public methods", mine, 35);
        checks.same("public fields", DrawingBars.class.getFields().length, 2);
        checks.same("public constructors", DrawingBars.class.getConstructors().length, 1);
        checks.same("final", java.lang.reflect.Modifier.isFinal(DrawingBars.class.getModifiers()), true);
    }
}
