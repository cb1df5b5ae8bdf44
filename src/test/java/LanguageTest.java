import java.io.IOException;
import java.lang.reflect.Constructor;
import java.lang.reflect.Field;
import java.lang.reflect.Method;
import java.lang.reflect.Modifier;
import java.nio.file.Files;
import java.nio.file.Path;
import java.util.ArrayList;
import java.util.List;
import java.util.Set;
import java.util.TreeSet;
import java.util.regex.Matcher;
import java.util.regex.Pattern;

/** The public face as the document's code block has it, and those rules of LANGUAGE.md that can be looked up. */
public final class LanguageTest {
    private static final Path SOURCE = Path.of("src/main/java/HalvedCow.java");
    private static final Path DOCUMENT = Path.of("../shared/DOC.md");
    private static final String[] NO_WORDS = {"throw", "throws", "try", "catch", "finally", "synchronized", "assert", "import",
        "package", "double", "float", "volatile", "native", "transient", "strictfp", "var", "yield", "hashCode", "toString",
        "Object", "Random", "Thread", "nanoTime", "currentTimeMillis"};

    private static int wrong = 0;

    private static void check(boolean holds, String what) {
        if (!holds) {
            wrong++;
            System.out.println(what);
        }
    }

    public static void main(String[] args) throws IOException {
        String source = Files.readString(SOURCE);
        String code = source.replaceAll("(?s)/\\*.*?\\*/", " ").replaceAll("//[^\n]*", " ").replaceAll("'(\\\\.|[^'])'", "0");
        face(Files.readString(DOCUMENT));
        words(source, code);
        methods(code);
        classes();
        System.out.println("the face and the language: " + wrong + " wrong");
        if (wrong != 0) {
            System.exit(1);
        }
    }

    private static void face(String document) {
        Set<String> due = new TreeSet<>();
        int from = document.indexOf("public final class HalvedCow {");
        String block = document.substring(from, document.indexOf("```", from));
        Matcher method = Pattern.compile("public (int|long) (\\w+)\\(([^)]*)\\);").matcher(block);
        while (method.find()) {
            due.add(method.group(1) + " " + method.group(2) + " " + method.group(3).split("int ", -1).length);
        }
        check(due.size() == 46, "the document's methods are not read as they should be: " + due.size());
        Set<String> got = new TreeSet<>();
        Set<String> hidden = new TreeSet<>();
        for (Method m : HalvedCow.class.getDeclaredMethods()) {
            int signs = m.getModifiers();
            if (Modifier.isPublic(signs)) {
                check(!Modifier.isStatic(signs), "static in the face: " + m);
                got.add(m.getReturnType() + " " + m.getName() + " " + (m.getParameterCount() + 1));
            } else {
                check(Modifier.isPrivate(signs), "neither public nor private: " + m);
                hidden.add(m.getName());
            }
        }
        check(got.equals(due), "the face is " + got + ", due is " + due);
        for (Method m : HalvedCow.class.getDeclaredMethods()) {
            check(!Modifier.isPublic(m.getModifiers()) || !hidden.contains(m.getName()), "a private method bears the name " + m.getName());
        }
        Set<String> constants = new TreeSet<>();
        for (Field f : HalvedCow.class.getDeclaredFields()) {
            check(Modifier.isPublic(f.getModifiers()) || Modifier.isPrivate(f.getModifiers()), "neither public nor private: " + f);
            if (Modifier.isPublic(f.getModifiers())) {
                check(f.getType() == int.class && Modifier.isStatic(f.getModifiers()), "no constant: " + f);
                constants.add(f.getName());
            }
        }
        check(constants.equals(Set.of("BAD", "FULL", "FINDING", "STATE", "SPENT", "NONE")), "constants are " + constants);
        check(HalvedCow.BAD == -1 && HalvedCow.FULL == -2 && HalvedCow.FINDING == -3, "BAD, FULL, FINDING");
        check(HalvedCow.STATE == -4 && HalvedCow.SPENT == -6 && HalvedCow.NONE == -9, "STATE, SPENT, NONE");
        Constructor<?>[] made = HalvedCow.class.getDeclaredConstructors();
        check(made.length == 1 && Modifier.isPublic(made[0].getModifiers()) && made[0].getParameterCount() == 0, "the constructor");
        check(Modifier.isFinal(HalvedCow.class.getModifiers()) && Modifier.isPublic(HalvedCow.class.getModifiers()), "public and final");
    }

    private static void words(String source, String code) {
        for (String word : NO_WORDS) {
            check(!Pattern.compile("\\b" + word + "\\b").matcher(code).find(), "not in this language: " + word);
        }
        check(!code.contains("->") && !code.contains("::"), "a lambda, a method reference");
        check(!code.contains("\""), "no text is due anywhere, so none is joined");
        check(!Pattern.compile("static\\s*\\{").matcher(code).find(), "a static initialiser block");
        check(source.chars().allMatch(c -> c < 128), "a sign above 127");
        Matcher library = Pattern.compile("\\b(Math|Integer|Long|System|Arrays|String|StringBuilder)\\.(\\w+)").matcher(code);
        while (library.find()) {
            check(Set.of("abs", "min", "max", "bitCount", "arraycopy").contains(library.group(2)), "library: " + library.group());
        }
    }

    /** Length is counted from a method's first line to the brace that stands in its column. */
    private static void methods(String code) {
        List<String> lines = new ArrayList<>(List.of(code.split("\n")));
        Pattern head = Pattern.compile("^( {4}| {8})(\\w+ )*\\w+(\\[\\])?( \\w+)?\\([^;=]*\\) \\{\\s*$");
        for (int i = 0; i < lines.size(); i++) {
            Matcher m = head.matcher(lines.get(i));
            if (m.find() && !lines.get(i).contains("for (") && !lines.get(i).contains("if (") && !lines.get(i).contains("switch (")) {
                int end = i;
                while (!lines.get(end).startsWith(m.group(1) + "}")) {
                    end++;
                }
                check(end - i < 60, "a long method: " + lines.get(i).trim());
            }
        }
    }

    private static void classes() {
        Class<?>[] inside = HalvedCow.class.getDeclaredClasses();
        check(inside.length < 12, "classes: " + inside.length);
        fields(HalvedCow.class);
        for (Class<?> c : inside) {
            check(Modifier.isStatic(c.getModifiers()), "not static: " + c);
            check(!Modifier.isPublic(c.getModifiers()) && !Modifier.isProtected(c.getModifiers()), "seen from without: " + c);
            check(c.getDeclaredClasses().length == 0, "classes within " + c);
            fields(c);
        }
    }

    private static void fields(Class<?> c) {
        int own = 0;
        for (Field f : c.getDeclaredFields()) {
            if (Modifier.isStatic(f.getModifiers())) {
                check(Modifier.isFinal(f.getModifiers()), "a static field that changes: " + f);
                check(Set.of("int", "long", "boolean", "char", "int[]").contains(f.getType().getSimpleName()), "a static field: " + f);
            } else {
                own++;
            }
        }
        check(own <= 20, c + " has too many fields: " + own);
        for (Method m : c.getDeclaredMethods()) {
            check(m.getParameterCount() <= 7, "too many parameters: " + m);
        }
    }
}
