import java.lang.reflect.Constructor;
import java.lang.reflect.Field;
import java.lang.reflect.Method;
import java.lang.reflect.Modifier;
import java.nio.file.Files;
import java.nio.file.Path;
import java.util.ArrayList;
import java.util.Arrays;
import java.util.List;
import java.util.Set;
import java.util.TreeSet;
import java.util.regex.Matcher;
import java.util.regex.Pattern;

/**
 * The public face, read from the document itself: every constant, constructor and method that stands there, with its types
 * and its value, and no other. The names of parameters are looked up in the class's text, as the machine does not keep them.
 */
public final class FaceTest {
    private static final Path DOCUMENT = Path.of("../shared/DOC.md");
    private static final Path CLASS = Path.of("src/main/java/ChartDesk.java");
    private static final int PROMISES = 32;
    private static int wrong = 0;

    private static void must(boolean holds, String what) {
        if (!holds) {
            wrong++;
            System.out.println("the face: " + what);
        }
    }

    /** The lines of the document's block of Java, without the class's own line and its end. */
    private static List<String> face(String document) {
        Matcher block = Pattern.compile("(?s)## The public face\\s*```java\\n(.*?)```").matcher(document);
        List<String> lines = new ArrayList<>();
        if (block.find()) {
            for (String line : block.group(1).split("\n")) {
                if (line.trim().endsWith(";")) {
                    lines.add(line.trim().replace(";", ""));
                }
            }
            must(block.group(1).startsWith("public final class ChartDesk {"), "the document names another class");
        }
        return lines;
    }

    private static String withoutNames(String line) {
        return line.replaceAll("(int|long|boolean) \\w+(?=[,)])", "$1");
    }

    private static String parameters(Class<?>[] types) {
        List<String> names = new ArrayList<>();
        for (Class<?> type : types) {
            names.add(type.getName());
        }
        return "(" + String.join(", ", names) + ")";
    }

    /** All members that are not private, as the document writes them, but for the names of parameters. */
    private static Set<String> open() throws IllegalAccessException {
        Set<String> all = new TreeSet<>();
        for (Field f : ChartDesk.class.getDeclaredFields()) {
            if (!Modifier.isPrivate(f.getModifiers())) {
                all.add(Modifier.toString(f.getModifiers()) + " " + f.getType() + " " + f.getName() + " = " + f.get(null));
            }
        }
        for (Constructor<?> c : ChartDesk.class.getDeclaredConstructors()) {
            all.add(Modifier.toString(c.getModifiers()) + " ChartDesk" + parameters(c.getParameterTypes()));
        }
        for (Method m : ChartDesk.class.getDeclaredMethods()) {
            if (!Modifier.isPrivate(m.getModifiers())) {
                all.add(Modifier.toString(m.getModifiers()) + " " + m.getReturnType() + " " + m.getName()
                        + parameters(m.getParameterTypes()));
                must(m.getExceptionTypes().length == 0, m.getName() + " throws none");
            }
        }
        return all;
    }

    private static void sameMembers(List<String> face) throws IllegalAccessException {
        Set<String> due = new TreeSet<>();
        for (String line : face) {
            must(due.add(withoutNames(line)), line + " stands once");
        }
        Set<String> there = open();
        for (String member : due) {
            must(there.contains(member), "it lacks " + member);
        }
        for (String member : there) {
            must(due.contains(member), "it has " + member + ", which the document has not");
        }
        must(Modifier.toString(ChartDesk.class.getModifiers()).equals("public final"), "the class is public and final");
        must(ChartDesk.class.getSuperclass() == Object.class && ChartDesk.class.getInterfaces().length == 0
                && ChartDesk.class.getPackageName().isEmpty(), "the class stands alone, without a package");
    }

    private static void sameText(List<String> face, String source) {
        for (String line : face) {
            must(source.contains("\n    " + line + (line.contains("(") ? " {\n" : ";\n")), "the text lacks " + line);
        }
    }

    /** Each method has a promise of its own, in the face's order; the first promise is the constructor's. */
    private static void promises(List<String> face, String document) {
        List<String> promised = new ArrayList<>();
        Matcher headings = Pattern.compile("(?m)^## Promise (\\d+): .*\\n\\n`([^`]*)`").matcher(document);
        while (headings.find()) {
            promised.add(headings.group(2));
            must(Integer.parseInt(headings.group(1)) == promised.size(), "promise " + headings.group(1) + " stands in order");
        }
        List<String> due = new ArrayList<>();
        for (String line : face) {
            if (line.contains("(")) {
                due.add(line.replace("public ", ""));
            }
        }
        must(promised.size() == PROMISES && promised.equals(due), "the promises are of " + promised);
    }

    public static void main(String[] arguments) throws Exception {
        String document = Files.readString(DOCUMENT);
        List<String> face = face(document);
        must(face.size() == PROMISES + 1, face.size() + " members are read from the document: " + Arrays.asList(face));
        sameMembers(face);
        sameText(face, Files.readString(CLASS));
        promises(face, document);
        System.out.println(wrong == 0 ? "the face is the document's" : wrong + " parts of the face are not the document's");
        if (wrong != 0) {
            System.exit(1);
        }
    }
}
