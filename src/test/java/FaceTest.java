import java.io.IOException;
import java.lang.reflect.Constructor;
import java.lang.reflect.Field;
import java.lang.reflect.Method;
import java.lang.reflect.Modifier;
import java.nio.charset.StandardCharsets;
import java.nio.file.Files;
import java.nio.file.Path;
import java.util.ArrayList;
import java.util.List;
import java.util.Set;
import java.util.TreeSet;
import java.util.regex.Matcher;
import java.util.regex.Pattern;

/** The public face as the document prints it, and what of LANGUAGE.md can be seen from outside. */
final class FaceTest {
    private static final Path DOCUMENT = Path.of("../shared/DOC.md");
    private static final Path SOURCE = Path.of("src/main/java/PocketHole.java");
    private static int wrong = 0;

    public static void main(String[] args) throws IOException {
        Set<String> due = faceOfDocument();
        Set<String> names = new TreeSet<>();
        Set<String> got = new TreeSet<>();
        for (Method method : PocketHole.class.getDeclaredMethods()) {
            if (Modifier.isPublic(method.getModifiers())) {
                got.add(signature(method));
                names.add(method.getName());
            } else {
                holds(Modifier.isPrivate(method.getModifiers()), method + " is private");
            }
        }
        holds(due.size() == 50, "the document has 50 methods, not " + due.size());
        holds(got.equals(due), "the face is that of the document: " + got + " / " + due);
        members(names);
        source();
        System.out.println(wrong + " wrong");
        if (wrong != 0) {
            System.exit(1);
        }
    }

    private static void holds(boolean isSo, String what) {
        if (!isSo) {
            wrong++;
            System.out.println("not so: " + what);
        }
    }

    private static Set<String> faceOfDocument() throws IOException {
        Set<String> due = new TreeSet<>();
        Matcher method = Pattern.compile("    public int (\\w+)\\(([^)]*)\\);").matcher(Files.readString(DOCUMENT));
        while (method.find()) {
            int many = method.group(2).isEmpty() ? 0 : method.group(2).split(",").length;
            due.add(method.group(1) + "/" + many);
        }
        return due;
    }

    private static String signature(Method method) {
        boolean areInts = method.getReturnType() == int.class;
        for (Class<?> type : method.getParameterTypes()) {
            areInts &= type == int.class;
        }
        holds(areInts, method + " is of ints");
        return method.getName() + "/" + method.getParameterCount();
    }

    private static void members(Set<String> names) {
        holds(Modifier.isFinal(PocketHole.class.getModifiers()), "the class is final");
        List<Constructor<?>> constructors = new ArrayList<>(List.of(PocketHole.class.getDeclaredConstructors()));
        holds(constructors.size() == 1 && constructors.get(0).getParameterCount() == 0, "one constructor");
        fields(PocketHole.class);
        parameters(PocketHole.class);
        holds(PocketHole.class.getDeclaredClasses().length < 12, "the file has some twelve classes at most");
        for (Class<?> inside : PocketHole.class.getDeclaredClasses()) {
            holds(Modifier.isStatic(inside.getModifiers()), inside + " is static");
            holds(Modifier.isPrivate(inside.getModifiers()), inside + " is private");
            fields(inside);
            parameters(inside);
            holds(inside.getDeclaredClasses().length == 0, inside + " has no class inside");
            for (Method method : inside.getDeclaredMethods()) {
                holds(!names.contains(method.getName()), method + " bears no name of the face");
            }
        }
        for (Method method : PocketHole.class.getDeclaredMethods()) {
            holds(Modifier.isPublic(method.getModifiers()) || !names.contains(method.getName()),
                method + " bears no name of the face");
        }
    }

    private static void fields(Class<?> owner) {
        int many = 0;
        for (Field field : owner.getDeclaredFields()) {
            holds(Modifier.isPrivate(field.getModifiers()), field + " is private");
            if (Modifier.isStatic(field.getModifiers())) {
                holds(Modifier.isFinal(field.getModifiers()), field + " is final");
            } else {
                many++;
            }
        }
        holds(many <= 20, owner + " has some twenty fields at most");
    }

    private static void parameters(Class<?> owner) {
        for (Method method : owner.getDeclaredMethods()) {
            holds(method.getParameterCount() <= 7, method + " takes seven parameters at most");
        }
    }

    private static void source() throws IOException {
        String source = Files.readString(SOURCE, StandardCharsets.US_ASCII);
        for (String word : List.of("throw", "try", "catch", "synchronized", "assert", "import", "package", "->", "::",
            "Exact", "java.", "System.out", "hashCode", "toString", "instanceof")) {
            holds(!source.contains(word), "there is no " + word);
        }
        // All that is ever made is made by constructors, so a run's room doesn't grow with its calls.
        Matcher made = Pattern.compile("\\n(\\s*)(.*)\\bnew (\\w+)").matcher(source);
        while (made.find()) {
            boolean isField = made.group(2).startsWith("private final") || made.group(2).startsWith("private static");
            boolean isRow = made.group(2).matches("(sheets\\[s\\]|row\\[c\\]) = ");
            holds(isField || isRow, "made outside a constructor: " + made.group());
        }
        shortMethods(source);
    }

    private static void shortMethods(String source) {
        String[] lines = source.split("\n");
        int begin = 0;
        String indent = "";
        for (int i = 0; i < lines.length; i++) {
            Matcher head = Pattern.compile("( {4}| {8})(\\w.*)\\) \\{").matcher(lines[i]);
            if (head.matches() && !head.group(2).matches("(if|for|while|switch|return|\\}).*")) {
                begin = i;
                indent = head.group(1);
            }
            if (lines[i].equals(indent + "}")) {
                holds(i - begin < 60, "a method of more than 60 lines from line " + (begin + 1));
            }
        }
    }
}
