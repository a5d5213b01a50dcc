import java.io.IOException;
import java.lang.reflect.Member;
import java.lang.reflect.Modifier;
import java.nio.file.Files;
import java.nio.file.Path;
import java.util.ArrayList;
import java.util.Arrays;
import java.util.HashSet;
import java.util.List;
import java.util.Set;
import java.util.TreeSet;
import java.util.regex.Matcher;
import java.util.regex.Pattern;

/** What of LANGUAGE.md can be seen from the text of the class: its words, its lengths, its face. */
public final class RulesTest {
    private static final Checks checks = new Checks();
    private static final List<String> BANNED = List.of("\\btry\\b", "\\bcatch\\b", "\\bfinally\\b", "->", "::", "\\bassert\\b",
            "\\bsynchronized\\b", "\\bdouble\\b", "\\bfloat\\b", "\\bpackage\\b", "Exact\\(", "\\bprotected\\b", "\\bObject\\b",
            "\\bvar\\b", "System\\.(?!arraycopy)", "\\bThread\\b", "\\binstanceof\\b", "\\[\\]\\[\\]", "\\bvolatile\\b", "while \\(true\\)",
            "\\brecord\\b", "\\bString\\.", "static (?!final)(?!.*[({])", "NullPointer", "ArrayIndex", "ClassCast");

    public static void main(String[] args) throws IOException {
        Path root = Path.of(args.length > 0 ? args[0] : ".");
        String source = Files.readString(root.resolve("src/main/java/DrawingBars.java"));
        String code = source.replaceAll("(?s)/\\*.*?\\*/", "").replaceAll("//[^\n]*", "");
        for (String banned : BANNED) {
            checks.same("not allowed: " + banned, Pattern.compile(banned).matcher(code).find(), false);
        }
        checks.same("signs 1 to 127", source.chars().allMatch(c -> c > 0 && c < 128), true);
        imports(code);
        classes(code);
        methods(code);
        library(code);
        inside();
        face(Files.readString(root.resolve("../shared/DOC.md")));
        checks.end();
    }

    private static void imports(String code) {
        Matcher m = Pattern.compile("import ([^;]+);").matcher(code);
        while (m.find()) {
            checks.same("import " + m.group(1), m.group(1).equals("java.util.NoSuchElementException"), true);
        }
    }

    private static void classes(String code) {
        Matcher m = Pattern.compile("\\bclass (\\w+)").matcher(code);
        int count = 0;
        while (m.find()) {
            count++;
        }
        checks.same("at most twelve classes", count <= 12, true);
        String[] bodies = code.split("\\bclass \\w+ \\{");
        for (String body : bodies) {
            Matcher field = Pattern.compile("private (?!static)(?:final )?[\\w\\[\\]]+ (\\w+)(?: =[^;]*)?;").matcher(body);
            int fields = 0;
            while (field.find()) {
                fields++;
            }
            checks.same("at most twenty fields", fields <= 20, true);
        }
    }

    private static void methods(String code) {
        Set<String> face = new HashSet<>();
        List<String> inner = new ArrayList<>();
        Matcher m = Pattern.compile("(?m)^( +)(public|private)(?: static)?(?: final)? ([\\w\\[\\]]+) (\\w+)\\(([^)]*)\\)[^{;]*\\{")
                .matcher(code);
        while (m.find()) {
            if (m.group(2).equals("public")) {
                face.add(m.group(4));
            } else {
                inner.add(m.group(4));
            }
            String end = "\n" + m.group(1) + "}\n";
            int lines = code.substring(m.start(), code.indexOf(end, m.start())).split("\n").length + 1;
            checks.same(m.group(4) + " is short", lines <= 60, true);
            checks.same(m.group(4) + " has at most seven parameters", m.group(5).split(",").length <= 7, true);
        }
        for (String name : inner) {
            checks.same("private " + name + " bears no public name", face.contains(name), false);
        }
        checks.same("methods of the face", face.size(), 35);
    }

    /** Rules 4 and 6: what of the library is called, and what is made. */
    private static void library(String code) {
        Set<String> allowed = Set.of("Math.abs", "Math.min", "Math.max", "Math.floorDiv", "Math.floorMod", "Integer.bitCount",
                "Integer.signum", "Integer.numberOfTrailingZeros", "Long.signum", "Long.numberOfLeadingZeros", "System.arraycopy");
        Matcher call = Pattern.compile("\\b(?:Math|Integer|Long|System|String|Arrays|Character|List)\\.\\w+").matcher(code);
        while (call.find()) {
            checks.same("library: " + call.group(), allowed.contains(call.group()), true);
        }
        Set<String> made = new HashSet<>(List.of("int", "long", "boolean", "NoSuchElementException", "IndexOutOfBoundsException",
                "IllegalArgumentException", "IllegalStateException"));
        for (Class<?> own : DrawingBars.class.getDeclaredClasses()) {
            made.add(own.getSimpleName());
        }
        Matcher making = Pattern.compile("\\bnew (\\w+)").matcher(code);
        while (making.find()) {
            checks.same("made: " + making.group(1), made.contains(making.group(1)), true);
        }
    }

    /** Rules 1, 2, 5 and 11: the classes inside are static, hide all they have, and keep no static state. */
    private static void inside() {
        for (Class<?> own : DrawingBars.class.getDeclaredClasses()) {
            String name = own.getSimpleName();
            int modifiers = own.getModifiers();
            checks.same(name + " is static", Modifier.isStatic(modifiers), true);
            checks.same(name + " is seen from outside", Modifier.isPublic(modifiers) || Modifier.isProtected(modifiers), false);
            checks.same(name + " has classes inside", own.getDeclaredClasses().length, 0);
            List<Member> members = new ArrayList<>(Arrays.asList(own.getDeclaredMethods()));
            members.addAll(Arrays.asList(own.getDeclaredFields()));
            members.addAll(Arrays.asList(own.getDeclaredConstructors()));
            for (Member member : members) {
                checks.same(name + "'s " + member.getName() + " is private", Modifier.isPrivate(member.getModifiers()), true);
            }
            for (java.lang.reflect.Field field : own.getDeclaredFields()) {
                boolean changes = Modifier.isStatic(field.getModifiers()) && !Modifier.isFinal(field.getModifiers());
                checks.same(name + "'s " + field.getName() + " is static state", changes, false);
            }
        }
    }

    /** Rule 1: just what stands in the document's face, with its exceptions in its order. */
    private static void face(String document) {
        Set<String> due = new TreeSet<>();
        Matcher line = Pattern.compile("(?m)^    public (?!static)(.*);$").matcher(document);
        while (line.find()) {
            due.add(line.group(1).replaceAll("int \\w+(?=[,)])", "int"));
        }
        Set<String> mine = new TreeSet<>(Set.of("DrawingBars()"));
        for (java.lang.reflect.Method method : DrawingBars.class.getDeclaredMethods()) {
            if (Modifier.isPublic(method.getModifiers())) {
                mine.add(signature(method));
            } else {
                checks.same(method + " is private", Modifier.isPrivate(method.getModifiers()), true);
            }
        }
        checks.same("the face is " + mine + ", due is " + due + ": alike", mine.equals(due), true);
        checks.same("its constructor and methods", mine.size(), 36);
        for (java.lang.reflect.Field field : DrawingBars.class.getDeclaredFields()) {
            boolean constant = List.of("NONE", "VOID").contains(field.getName());
            int all = Modifier.PUBLIC | Modifier.STATIC | Modifier.FINAL;
            checks.same(field + " is public", Modifier.isPublic(field.getModifiers()), constant);
            checks.same(field + " is private", Modifier.isPrivate(field.getModifiers()), !constant);
            checks.same(field + " is a constant", (field.getModifiers() & all) == all, constant);
        }
        checks.same("public fields", DrawingBars.class.getFields().length, 2);
        checks.same("constructors", DrawingBars.class.getDeclaredConstructors().length, 1);
        checks.same("public constructors", DrawingBars.class.getConstructors().length, 1);
        checks.same("final", Modifier.isFinal(DrawingBars.class.getModifiers()), true);
    }

    private static String signature(java.lang.reflect.Method method) {
        StringBuilder text = new StringBuilder(method.getReturnType() + " " + method.getName() + "(");
        for (int i = 0; i < method.getParameterCount(); i++) {
            text.append(i > 0 ? ", " : "").append(method.getParameterTypes()[i]);
        }
        text.append(")");
        for (int i = 0; i < method.getExceptionTypes().length; i++) {
            text.append(i > 0 ? ", " : " throws ").append(method.getExceptionTypes()[i].getSimpleName());
        }
        return text.toString();
    }
}
