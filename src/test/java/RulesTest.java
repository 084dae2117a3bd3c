import java.io.IOException;
import java.lang.reflect.Method;
import java.lang.reflect.Modifier;
import java.nio.charset.StandardCharsets;
import java.nio.file.Files;
import java.nio.file.Path;
import java.util.List;
import java.util.Set;
import java.util.TreeSet;
import java.util.regex.Matcher;
import java.util.regex.Pattern;

/** What can be seen in the class's text of the rules of LANGUAGE.md. Runs in the project's folder. */
public final class RulesTest {
    private static final Check CHECK = new Check("RulesTest");
    private static final int LINES_MOST = 60;
    private static final Pattern METHOD = Pattern.compile("    (    )?[a-zA-Z][^=;]*\\([^;]*\\) \\{");

    public static void main(String[] args) throws IOException {
        byte[] bytes = Files.readAllBytes(Path.of("src/main/java/OnlyBatteries.java"));
        String text = new String(bytes, StandardCharsets.ISO_8859_1);
        for (byte sign : bytes) {
            if (sign < 10 || sign == 127) {
                CHECK.due("a sign that is not plain", sign, 32);
            }
        }
        words(withoutTexts(text));
        imports(text);
        lengths(text);
        names();
        CHECK.end();
    }

    private static String withoutTexts(String text) {
        return text.replaceAll("(?s)/\\*.*?\\*/", "").replaceAll("//[^\n]*", "")
                .replaceAll("\"[^\"\n]*\"", "\"\"").replaceAll("'[^'\n]'", "' '");
    }

    private static void words(String code) {
        for (String word : List.of("throw", "throws", "try", "catch", "finally", "synchronized", "assert", "protected",
                "native", "transient", "volatile", "interface", "extends", "Object", "equals", "hashCode", "toString",
                "Exception", "Error", "HashMap", "Random", "nanoTime", "currentTimeMillis", "Thread", "Float", "Double")) {
            CHECK.due(word, Pattern.compile("\\b" + word + "\\b").matcher(code).find() ? 1 : 0, 0);
        }
        CHECK.due("a lambda", code.indexOf("->"), -1);
        CHECK.due("a method reference", code.indexOf("::"), -1);
        CHECK.due("Exact", code.indexOf("Exact("), -1);
        Matcher statics = Pattern.compile("\\bstatic (?!final )[^(\n]*;").matcher(code);
        CHECK.due("static state", statics.find() ? 1 : 0, 0);
        CHECK.due("a static block", Pattern.compile("static\\s*\\{").matcher(code).find() ? 1 : 0, 0);
    }

    private static void imports(String text) {
        Set<String> allowed = Set.of("java.util.Arrays", "java.util.ArrayList", "java.util.List");
        Matcher m = Pattern.compile("(?m)^import (.*);").matcher(text);
        while (m.find()) {
            CHECK.due("import " + m.group(1), allowed.contains(m.group(1)) ? 1 : 0, 1);
        }
        CHECK.due("no package", text.startsWith("package") || text.contains("\npackage") ? 1 : 0, 0);
    }

    private static void lengths(String text) {
        String[] lines = text.split("\n");
        int methods = 0;
        for (int i = 0; i < lines.length; i++) {
            if (!METHOD.matcher(lines[i]).matches()) {
                continue;
            }
            String end = lines[i].replaceAll("\\S.*", "") + "}";
            int length = 1;
            while (i + length < lines.length && !lines[i + length].equals(end)) {
                length++;
            }
            methods++;
            CHECK.due(lines[i].trim() + " has " + (length + 1) + " lines", length < LINES_MOST ? 1 : 0, 1);
        }
        CHECK.due("there are methods: " + methods, methods > 40 ? 1 : 0, 1);
    }

    private static void names() {
        Set<String> face = new TreeSet<>();
        for (Method method : OnlyBatteries.class.getDeclaredMethods()) {
            if (Modifier.isPublic(method.getModifiers())) {
                face.add(method.getName());
            }
        }
        parameters(OnlyBatteries.class, face);
        for (Class<?> inner : OnlyBatteries.class.getDeclaredClasses()) {
            parameters(inner, Set.of());
            for (Method method : inner.getDeclaredMethods()) {
                CHECK.due(method + " bears a public name", face.contains(method.getName()) ? 1 : 0, 0);
            }
        }
    }

    private static void parameters(Class<?> owner, Set<String> face) {
        for (Method method : owner.getDeclaredMethods()) {
            boolean own = !Modifier.isPublic(method.getModifiers());
            CHECK.due(method + " bears a public name", own && face.contains(method.getName()) ? 1 : 0, 0);
            CHECK.due(method + " has few parameters", method.getParameterCount() <= 7 ? 1 : 0, 1);
        }
    }
}
