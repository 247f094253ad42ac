import java.lang.reflect.Field;
import java.lang.reflect.Method;
import java.lang.reflect.Modifier;
import java.nio.file.Files;
import java.nio.file.Path;
import java.util.ArrayList;
import java.util.Arrays;
import java.util.List;
import java.util.Set;
import java.util.TreeSet;
import java.util.regex.Matcher;
import java.util.regex.Pattern;

/** The rules of LANGUAGE.md that can be looked up in the class and in its text; those about calls are in CallsTest. */
public final class LanguageTest {
    private static int wrong = 0;

    private static void must(boolean holds, String rule) {
        if (!holds) {
            wrong++;
            System.out.println("broken: " + rule);
        }
    }

    /** The names of the public methods, which FaceTest holds to the document. */
    private static Set<String> face() {
        Set<String> names = new TreeSet<>();
        for (Method m : ChartDesk.class.getDeclaredMethods()) {
            if (Modifier.isPublic(m.getModifiers())) {
                must(names.add(m.getName()), "1: " + m + " is of the face, once");
            }
        }
        return names;
    }

    private static void classes() {
        List<Class<?>> all = new ArrayList<>(Arrays.asList(ChartDesk.class.getDeclaredClasses()));
        must(all.size() <= 12, "11: some twelve classes, not " + all.size());
        Set<String> face = face();
        for (Class<?> inside : all) {
            int kind = inside.getModifiers();
            must(Modifier.isStatic(kind) && !Modifier.isPublic(kind) && !Modifier.isProtected(kind),
                    "1: " + inside + " is static and not open");
        }
        all.add(ChartDesk.class);
        for (Class<?> any : all) {
            int fields = 0;
            for (Field f : any.getDeclaredFields()) {
                boolean isStatic = Modifier.isStatic(f.getModifiers());
                must(!isStatic || Modifier.isFinal(f.getModifiers()), "5: " + f + " is final");
                fields += isStatic ? 0 : 1;
            }
            must(fields <= 20, "11: some twenty fields, not " + fields + " in " + any);
            for (Method m : any.getDeclaredMethods()) {
                must(m.getParameterCount() <= 7, "11: seven parameters: " + m);
                must(Modifier.isPublic(m.getModifiers()) || !face.contains(m.getName()), "1: no other " + m.getName());
            }
        }
    }

    private static void text(String source) {
        String code = source.replaceAll("(?s)/\\*.*?\\*/", "").replaceAll("//.*", "");
        String[] never = {"\\bthrow\\b", "\\btry\\b", "\\bcatch\\b", "\\bsynchronized\\b", "\\bassert\\b", "->", "::",
            "\\w+Exact\\b", "\\bstatic\\s*\\{", "\\bObject\\b", "\\bfloat\\b", "\\bdouble\\b", "\"", "\\bpackage\\b"};
        for (String n : never) {
            must(!Pattern.compile(n).matcher(code).find(), "no " + n + " in the text");
        }
        Matcher imports = Pattern.compile("import (\\S+);").matcher(code);
        while (imports.find()) {
            must(imports.group(1).equals("java.util.Arrays"), "4: import of " + imports.group(1));
        }
        int start = -1;
        String[] lines = source.split("\n");
        for (int i = 0; i < lines.length; i++) {
            must(lines[i].length() <= 125, "a line is too long: " + (i + 1));
            if (lines[i].matches(" {4,8}\\S.*\\) \\{")) {
                start = i;
            }
            if (lines[i].matches(" {4,8}\\}") && start >= 0) {
                must(i - start < 60, "11: a method is too long: " + lines[start]);
                start = -1;
            }
        }
    }

    public static void main(String[] arguments) throws Exception {
        classes();
        text(Files.readString(Path.of("src/main/java/ChartDesk.java")));
        System.out.println(wrong == 0 ? "no rule is broken" : wrong + " rules are broken");
        if (wrong != 0) {
            System.exit(1);
        }
    }
}
