import java.io.IOException;
import java.lang.reflect.Constructor;
import java.lang.reflect.Field;
import java.lang.reflect.Method;
import java.lang.reflect.Modifier;
import java.nio.file.Files;
import java.nio.file.Path;
import java.util.ArrayList;
import java.util.List;
import java.util.Set;
import java.util.TreeSet;
import java.util.regex.Matcher;
import java.util.regex.Pattern;

/** The face of the document, and what a machine can see of the rules of LANGUAGE.md. */
public final class LanguageTest {
    private static final Path PROGRAM = Path.of("src/main/java/SlateHands.java");
    private static final Path DOCUMENT = Path.of("../shared/DOC.md");

    private static final Check CHECK = new Check();

    private LanguageTest() {
    }

    public static void main(String[] args) throws IOException {
        face();
        members();
        namesAreApart();
        sizes();
        words();
        methodLengths();
        CHECK.finish();
    }

    private static void face() throws IOException {
        Set<String> due = new TreeSet<>();
        Matcher lines = Pattern.compile("(?m)^ {4}(public [^;{]*);$").matcher(Files.readString(DOCUMENT));
        while (lines.find()) {
            due.add(lines.group(1).replaceAll(" [a-zA-Z]+(?=[,)])", "").replaceAll(" = .*", ""));
        }
        CHECK.due("lines of the face", due.size(), 65);
        Set<String> got = new TreeSet<>();
        for (Field field : SlateHands.class.getDeclaredFields()) {
            if (!Modifier.isPrivate(field.getModifiers())) {
                got.add(Modifier.toString(field.getModifiers()) + " " + field.getType() + " " + field.getName());
            }
        }
        for (Constructor<?> made : SlateHands.class.getDeclaredConstructors()) {
            got.add(Modifier.toString(made.getModifiers()) + " SlateHands(" + types(made.getParameterTypes()) + ")");
        }
        for (Method method : SlateHands.class.getDeclaredMethods()) {
            if (!Modifier.isPrivate(method.getModifiers())) {
                got.add(Modifier.toString(method.getModifiers()) + " " + method.getReturnType() + " " + method.getName()
                        + "(" + types(method.getParameterTypes()) + ")");
            }
        }
        for (String line : due) {
            CHECK.due("the face has " + line, got.contains(line) ? 1 : 0, 1);
        }
        for (String line : got) {
            CHECK.due("the document has " + line, due.contains(line) ? 1 : 0, 1);
        }
        int modifiers = SlateHands.class.getModifiers();
        CHECK.due("public and final", Modifier.isPublic(modifiers) && Modifier.isFinal(modifiers) ? 1 : 0, 1);
        CHECK.due("NONE", SlateHands.NONE, -1);
    }

    private static String types(Class<?>[] types) {
        List<String> names = new ArrayList<>();
        for (Class<?> type : types) {
            names.add(type.getName());
        }
        return String.join(", ", names);
    }

    private static void members() {
        for (Class<?> inner : SlateHands.class.getDeclaredClasses()) {
            int modifiers = inner.getModifiers();
            CHECK.due(inner + " is static", Modifier.isStatic(modifiers) ? 1 : 0, 1);
            CHECK.due(inner + " is not shown", Modifier.isPublic(modifiers) || Modifier.isProtected(modifiers) ? 1 : 0, 0);
        }
        for (Class<?> one : classes()) {
            for (Field field : one.getDeclaredFields()) {
                boolean changes = Modifier.isStatic(field.getModifiers()) && !Modifier.isFinal(field.getModifiers());
                CHECK.due(field + " is static and not final", changes ? 1 : 0, 0);
            }
        }
    }

    private static void namesAreApart() {
        Set<String> shown = new TreeSet<>();
        for (Method method : SlateHands.class.getDeclaredMethods()) {
            if (Modifier.isPublic(method.getModifiers())) {
                shown.add(method.getName());
            }
        }
        for (Class<?> one : classes()) {
            for (Method method : one.getDeclaredMethods()) {
                boolean isPublic = Modifier.isPublic(method.getModifiers());
                CHECK.due(method + " bears the name of a public one", !isPublic && shown.contains(method.getName()) ? 1 : 0, 0);
            }
        }
    }

    private static void sizes() {
        CHECK.due("at most twelve classes", Math.max(12, classes().size()), 12);
        for (Class<?> one : classes()) {
            int fields = 0;
            for (Field field : one.getDeclaredFields()) {
                fields += Modifier.isStatic(field.getModifiers()) ? 0 : 1;
            }
            CHECK.due("at most twenty fields in " + one, Math.max(20, fields), 20);
            for (Method method : one.getDeclaredMethods()) {
                CHECK.due("at most seven parameters of " + method, Math.max(7, method.getParameterCount()), 7);
            }
        }
    }

    private static List<Class<?>> classes() {
        List<Class<?>> all = new ArrayList<>(List.of(SlateHands.class.getDeclaredClasses()));
        all.add(SlateHands.class);
        return all;
    }

    private static void words() throws IOException {
        String program = Files.readString(PROGRAM);
        CHECK.due("signs beyond 127", program.chars().filter(sign -> sign > 127).count(), 0);
        String code = program.replaceAll("(?s)/\\*.*?\\*/", "").replaceAll("//.*", "").replaceAll("\"[^\"]*\"", "\"\"");
        for (String word : List.of("throw", "throws", "try", "catch", "finally", "synchronized", "assert", "var", "Object",
                "Thread", "System.out", "System.nanoTime", "System.currentTimeMillis", "Random", "package", "native",
                "volatile", "strictfp", "transient", "hashCode", "toString", "Exact")) {
            boolean stands = Pattern.compile("\\b" + Pattern.quote(word) + "\\b").matcher(code).find();
            CHECK.due("the program has " + word, stands ? 1 : 0, 0);
        }
        for (String sign : List.of("->", "::", "\" +", "+ \"", "@")) {
            CHECK.due("the program has " + sign, code.contains(sign) ? 1 : 0, 0);
        }
        Matcher imports = Pattern.compile("(?m)^import (.*);$").matcher(code);
        while (imports.find()) {
            CHECK.due("import " + imports.group(1), imports.group(1).matches("java\\.util\\.(Arrays|ArrayList|List)") ? 1 : 0, 1);
        }
    }

    /** Each method from its first line to the sign that ends it, by how far they are from the left. */
    private static void methodLengths() throws IOException {
        List<String> lines = Files.readAllLines(PROGRAM);
        int from = -1;
        String end = "";
        for (int i = 0; i < lines.size(); i++) {
            String line = lines.get(i);
            CHECK.due("line " + (i + 1) + " is at most 120 long", Math.max(120, line.length()), 120);
            if (from < 0 && line.matches(" +[a-zA-Z].*\\) \\{") && !line.matches(" +(if|for|while|switch|do)\\b.*")) {
                from = i;
                end = line.replaceAll("[^ ].*", "") + "}";
            } else if (from >= 0 && line.equals(end)) {
                CHECK.due("lines of the method at " + (from + 1), Math.max(60, i - from + 1), 60);
                from = -1;
            }
        }
    }
}
