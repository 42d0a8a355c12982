import java.io.IOException;
import java.lang.reflect.Field;
import java.lang.reflect.Method;
import java.lang.reflect.Modifier;
import java.nio.file.Files;
import java.nio.file.Path;
import java.util.ArrayList;
import java.util.List;
import java.util.TreeSet;
import java.util.regex.Matcher;
import java.util.regex.Pattern;

/** The rules of LANGUAGE.md that can be seen in the text of the class or in its public face. */
public final class LanguageTest {
    private static final String[] FACE = {"feed II", "cave I", "slate III", "of III", "put III", "reader III", "at III",
        "needs III", "hours II", "told II", "level II", "soon III", "set IIII", "two IIIII", "ask IIII", "waits I",
        "shelve III", "change I", "force II", "open IIII", "next II", "safe JIII", "mean JII", "see IIZ", "stood I",
        "tale IIII", "looked I", "act IIII", "trace II", "as III", "image I", "undo I", "count II"};
    /** The rule's "some" twelve, sixty and twenty. */
    private static final int SOME_CLASSES = 14, SOME_LINES = 70, SOME_FIELDS = 24;
    private static final Due due = new Due();

    public static void main(String[] args) throws IOException {
        String source = Files.readString(Path.of("src/main/java/LowWater.java"));
        String code = source.replaceAll("(?s)/\\*.*?\\*/", "").replaceAll("//[^\n]*", "");
        signs(code);
        words(code);
        lengths(code);
        face();
        inside();
        due.end();
    }

    private static void signs(String source) {
        due.about("signs");
        for (int i = 0; i < source.length(); i++) {
            if (source.charAt(i) > 127) {
                due.is("sign at " + i, source.charAt(i), 127);
            }
        }
    }

    private static void bars(String code, String pattern) {
        Matcher found = Pattern.compile(pattern).matcher(code);
        due.is("'" + pattern + "' found", found.find() ? found.start() : -1, -1);
    }

    private static void words(String code) {
        due.about("words");
        String[] barred = {"throw", "throws", "try", "catch", "finally", "synchronized", "assert", "instanceof \\w+\\(",
            "while \\(true\\)", "for \\(;", "System\\.(?!arraycopy)", "boolean equals\\(", "int hashCode\\(",
            "String toString\\(", "\\w+Exact", "Thread", "Random", "volatile", "transient", "native", "package"};
        for (String word : barred) {
            bars(code, "\\b" + word + (word.matches("[\\w]+") ? "\\b" : ""));
        }
        bars(code.replaceAll("\\b(case [^\n]*?|default) ->", ""), "->");
        bars(code, "::");
        bars(code, "\"[^\"\n]*\"\\s*\\+|\\+\\s*\"");
        Matcher imports = Pattern.compile("import ([^;]+);").matcher(code);
        while (imports.find()) {
            due.is("import " + imports.group(1), imports.group(1).matches("java\\.util\\.(Arrays|ArrayList|List|Iterator)") ? 1 : 0, 1);
        }
        int classes = 0;
        Matcher found = Pattern.compile("\\b(class|interface|enum|record) \\w+").matcher(code);
        while (found.find()) {
            classes++;
        }
        due.is("classes", Math.max(SOME_CLASSES, classes), SOME_CLASSES);
    }

    /** A method ends at the brace that stands as far in as its head does. */
    private static void lengths(String code) {
        due.about("length of methods");
        String[] lines = code.split("\n");
        for (int i = 0; i < lines.length; i++) {
            Matcher head = Pattern.compile("^( {4}| {8})(?! )(?!if |for )[\\w\\[\\] ]+\\(([^()]*)\\) \\{$").matcher(lines[i]);
            if (!head.matches()) {
                continue;
            }
            int end = i;
            while (!lines[end].equals(head.group(1) + "}")) {
                end++;
            }
            due.is("lines of " + lines[i].trim(), Math.max(SOME_LINES, end - i + 1), SOME_LINES);
            due.is(lines[i].trim() + " of 7 parameters at most", Math.max(7, head.group(2).split(",").length), 7);
        }
    }

    private static String sign(Method m) {
        StringBuilder text = new StringBuilder(m.getName() + " " + m.getReturnType().descriptorString());
        for (Class<?> type : m.getParameterTypes()) {
            text.append(type.descriptorString());
        }
        return text.toString();
    }

    private static void face() {
        due.about("face");
        List<String> methods = new ArrayList<>();
        TreeSet<String> names = new TreeSet<>();
        for (Method m : LowWater.class.getDeclaredMethods()) {
            if (Modifier.isPublic(m.getModifiers())) {
                methods.add(sign(m));
                names.add(m.getName());
            } else if (!m.isSynthetic()) {
                due.is(m.getName() + " is private", Modifier.isPrivate(m.getModifiers()) ? 1 : 0, 1);
            }
        }
        due.is("methods", methods.size(), FACE.length);
        for (String sign : FACE) {
            due.is(sign + " is there", methods.contains(sign) ? 1 : 0, 1);
        }
        List<Class<?>> all = new ArrayList<>(List.of(LowWater.class.getDeclaredClasses()));
        all.add(LowWater.class);
        for (Class<?> one : all) {
            for (Method m : one.getDeclaredMethods()) {
                boolean hides = Modifier.isPrivate(m.getModifiers()) && names.contains(m.getName());
                due.is(m.getName() + " hides a public one", hides ? 1 : 0, 0);
            }
        }
        int constants = 0;
        for (Field f : LowWater.class.getDeclaredFields()) {
            constants += Modifier.isPublic(f.getModifiers()) ? 1 : 0;
            due.is(f.getName() + " is public or private", Modifier.isPublic(f.getModifiers())
                || Modifier.isPrivate(f.getModifiers()) ? 1 : 0, 1);
        }
        due.is("public constants", constants, 5);
        due.is("constructors", LowWater.class.getDeclaredConstructors().length, 1);
        due.is("public constructors", LowWater.class.getConstructors().length, 1);
        due.is("final", Modifier.isFinal(LowWater.class.getModifiers()) ? 1 : 0, 1);
    }

    private static void inside() {
        due.about("classes inside");
        List<Class<?>> all = new ArrayList<>(List.of(LowWater.class.getDeclaredClasses()));
        for (Class<?> one : all) {
            int how = one.getModifiers();
            due.is(one.getName() + " is static", Modifier.isStatic(how) ? 1 : 0, 1);
            boolean seen = Modifier.isPublic(how) || Modifier.isProtected(how);
            due.is(one.getName() + " is private or package-visible", seen ? 1 : 0, 0);
        }
        all.add(LowWater.class);
        for (Class<?> one : all) {
            int fields = 0;
            for (Field f : one.getDeclaredFields()) {
                boolean fixed = Modifier.isStatic(f.getModifiers());
                fields += fixed ? 0 : 1;
                due.is(f.getName() + " is final, if static", !fixed || Modifier.isFinal(f.getModifiers()) ? 1 : 0, 1);
            }
            due.is("fields of " + one.getName(), Math.max(SOME_FIELDS, fields), SOME_FIELDS);
        }
    }
}
