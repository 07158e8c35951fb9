import java.io.IOException;
import java.lang.reflect.Constructor;
import java.lang.reflect.Field;
import java.lang.reflect.Member;
import java.lang.reflect.Method;
import java.lang.reflect.Modifier;
import java.nio.file.Files;
import java.nio.file.Path;
import java.util.Arrays;
import java.util.Set;
import java.util.TreeSet;
import java.util.regex.Pattern;

/** The public face of the document, its constants, and those rules of LANGUAGE.md that can be looked up. */
public final class FaceTest {
    private static final Check check = new Check();
    /** Each method with how many ints it takes. */
    private static final String FACE = "row 3, set 3, copy 5, drop 1, feed 1, town 0, fault 0, tell 2, supper 1, "
            + "forget 2, undo 0, lie 2, stranger 2, need 2, nods 1, order 3, comesIn 3, dead 1, help 2, suppers 2, "
            + "doubted 5, trusted 4, who 3, odds 7, image 1, restore 1, kind 1, as 2, ask 2, trace 1, count 1, status 0";
    private static final String[] UNWANTED = {"throw", "try", "catch", "synchronized", "assert", "import", "package",
        "throws", "Object", "Thread", "Random", "hashCode", "toString", "protected", "transient", "volatile", "native"};

    public static void main(String[] args) throws IOException {
        constants();
        publicMembers();
        classesInside();
        source(Files.readString(Path.of("src/main/java/NodBets.java")));
        check.end();
    }

    private static void constants() {
        check.due("NONE", NodBets.NONE, -1000000);
        check.due("BAD", NodBets.BAD, -1000001);
        check.due("STATE", NodBets.STATE, -1000002);
        check.due("FULL", NodBets.FULL, -1000003);
    }

    private static void publicMembers() {
        check.due("public and final", NodBets.class.getModifiers(), Modifier.PUBLIC | Modifier.FINAL);
        Constructor<?>[] constructors = NodBets.class.getDeclaredConstructors();
        check.due("constructors", constructors.length, 1);
        check.due("its parameters", constructors[0].getParameterCount(), 0);
        check.holds("it is public", Modifier.isPublic(constructors[0].getModifiers()));
        Set<String> methods = new TreeSet<>();
        for (Method method : NodBets.class.getDeclaredMethods()) {
            if (!Modifier.isPrivate(method.getModifiers())) {
                methods.add(method.getName() + " " + method.getParameterCount());
                check.holds(method + " answers an int", method.getReturnType() == int.class);
                check.holds(method + " is public alone", method.getModifiers() == Modifier.PUBLIC);
                check.holds(method + " takes ints",
                        Arrays.stream(method.getParameterTypes()).allMatch(type -> type == int.class));
            }
        }
        check.holds("the methods are those of the face: " + methods,
                methods.equals(new TreeSet<>(Arrays.asList(FACE.split(", ")))));
        Set<String> fields = new TreeSet<>();
        for (Field field : NodBets.class.getDeclaredFields()) {
            if (!Modifier.isPrivate(field.getModifiers())) {
                fields.add(field.getName());
            }
        }
        check.holds("the constants are those of the face: " + fields,
                fields.equals(Set.of("NONE", "BAD", "STATE", "FULL")));
    }

    private static void classesInside() {
        Class<?>[] inside = NodBets.class.getDeclaredClasses();
        check.holds("at most twelve classes", inside.length + 1 <= 12);
        staticFieldsAreFinal(NodBets.class);
        for (Class<?> one : inside) {
            check.holds(one + " is static", Modifier.isStatic(one.getModifiers()));
            check.holds(one + " is not public", !Modifier.isPublic(one.getModifiers()));
            staticFieldsAreFinal(one);
            for (Constructor<?> constructor : one.getDeclaredConstructors()) {
                check.due(constructor + " is handed nothing of another object", constructor.getParameterCount(), 0);
            }
            for (Method method : one.getDeclaredMethods()) {
                check.holds(method + " bears no public name", !(", " + FACE).contains(", " + method.getName() + " "));
                check.holds(method + " takes seven at most", method.getParameterCount() <= 7);
            }
        }
        for (Method method : NodBets.class.getDeclaredMethods()) {
            if (Modifier.isPrivate(method.getModifiers())) {
                check.holds(method + " bears no public name", !(", " + FACE).contains(", " + method.getName() + " "));
            }
        }
    }

    private static void staticFieldsAreFinal(Class<?> one) {
        long own = Arrays.stream(one.getDeclaredFields()).map(Member::getModifiers)
                .filter(modifiers -> !Modifier.isStatic(modifiers)).count();
        check.holds(one + " has some twenty fields at most", own <= 20);
        for (Field field : one.getDeclaredFields()) {
            int modifiers = field.getModifiers();
            check.holds(field + " is final", !Modifier.isStatic(modifiers) || Modifier.isFinal(modifiers));
        }
    }

    private static void source(String text) {
        String code = text.replaceAll("(?s)/\\*.*?\\*/", "").replaceAll("//[^\n]*", "");
        for (String word : UNWANTED) {
            check.holds("no " + word, !Pattern.compile("\\b" + word + "\\b").matcher(code).find());
        }
        check.holds("no lambda", !code.contains("->"));
        check.holds("no method reference", !code.contains("::"));
        check.holds("no Exact", !code.contains("Exact"));
        check.holds("of System, arraycopy alone", !Pattern.compile("System\\.(?!arraycopy)").matcher(code).find());
        check.holds("signs 1 to 127 alone", text.chars().allMatch(sign -> sign > 0 && sign < 128));
        methodsAreShort(text.split("\n"));
    }

    /** A method begins by a line that ends with ") {" and ends by the next brace that stands as far to the right. */
    private static void methodsAreShort(String[] lines) {
        Pattern begins = Pattern.compile("( {4}| {8})(?!(if|for|while|switch)\\b)[\\w\\[].*\\) \\{");
        int methods = 0;
        for (int from = 0; from < lines.length; from++) {
            if (begins.matcher(lines[from]).matches()) {
                methods++;
                String closing = lines[from].replaceAll("\\S.*", "}");
                int to = from;
                while (to < lines.length && !lines[to].equals(closing)) {
                    to++;
                }
                check.holds(lines[from].strip() + " has sixty lines at most: " + (to - from + 1), to - from + 1 <= 60);
            }
        }
        check.holds("there are methods for each call of the face: " + methods, methods >= FACE.split(", ").length);
    }
}
