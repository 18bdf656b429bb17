import java.io.IOException;
import java.lang.reflect.Constructor;
import java.lang.reflect.Field;
import java.lang.reflect.Method;
import java.lang.reflect.Modifier;
import java.nio.file.Files;
import java.nio.file.Path;
import java.util.Arrays;
import java.util.HashSet;
import java.util.List;
import java.util.Set;
import java.util.TreeSet;
import java.util.regex.Matcher;
import java.util.regex.Pattern;

/** The class's face, and the rules of LANGUAGE.md that can be read off the class or its text. */
public final class LanguageTest {
    private static final Path SOURCE = Path.of("src/main/java/ForumWeights.java");

    static final Set<String> FACE = Set.of(
            "int person()", "boolean hour(int)", "boolean rules(int, int, int, int, int)", "int post(int, int)",
            "boolean mark(int, int, int)", "int takeBack(int)", "boolean pin(int, boolean)", "long lower()",
            "long upper(int)", "long weight(int)", "int postOf(int, int)", "int sure(int, int)",
            "boolean hide(int, int)", "int appeal(int, int)", "int say(int, int, boolean)", "int list()",
            "int listed(int)", "int tree(int, int)", "int about(int)");

    /** What rules 2, 4, 6 and 13 leave out. */
    private static final List<String> LEFT_OUT = List.of(
            "\\bthrow\\b", "\\bthrows\\b", "\\btry\\b", "\\bcatch\\b", "\\bfinally\\b", "\\bsynchronized\\b",
            "\\bassert\\b", "->", "::", "\\bpackage\\b", "\\w+Exact\\b", "\\bObject\\b", "\\bThread\\b", "\\bRandom\\b",
            "\\bSystem\\b(?!\\.arraycopy)", "\\b(hashCode|toString|equals)\\b", "\\bstatic\\s*\\{", "\\bimport static\\b",
            "\\bvar\\b", "\\bwhile\\s*\\(\\s*true\\b", "\\bfor\\s*\\(\\s*;\\s*;");

    private static final int MOST_LINES_OF_A_METHOD = 60;
    private static final int MOST_PARAMETERS = 7;
    private static final int MOST_FIELDS = 20;
    private static final int MOST_CLASSES = 12;

    private static final Checks CHECKS = new Checks("LanguageTest");

    private LanguageTest() {
    }

    public static void main(String[] args) throws IOException {
        face();
        classesInside();
        String text = withoutComments(Files.readString(SOURCE));
        for (String left : LEFT_OUT) {
            Matcher found = Pattern.compile(left).matcher(text);
            CHECKS.due("the text has " + left, found.find(), false);
        }
        imports(text);
        lengths(text);
        CHECKS.end();
    }

    private static void face() {
        Class<?> it = ForumWeights.class;
        CHECKS.due("public and final", it.getModifiers() & (Modifier.PUBLIC | Modifier.FINAL),
                Modifier.PUBLIC | Modifier.FINAL);
        Set<String> seen = new TreeSet<>();
        for (Method method : it.getDeclaredMethods()) {
            if (!Modifier.isPrivate(method.getModifiers())) {
                CHECKS.due(method + " is public and no static one",
                        Modifier.isPublic(method.getModifiers()) && !Modifier.isStatic(method.getModifiers()), true);
                seen.add(signature(method));
            }
        }
        CHECKS.due("the face's methods: " + seen, seen.equals(FACE), true);
        for (Field field : it.getDeclaredFields()) {
            boolean isOpen = !Modifier.isPrivate(field.getModifiers());
            CHECKS.due(field + " is open", isOpen, field.getName().equals("NONE"));
        }
        Constructor<?>[] makers = it.getDeclaredConstructors();
        CHECKS.due("constructors", makers.length, 1);
        CHECKS.due("parameters of the constructor", makers[0].getParameterCount(), 0);
        CHECKS.due("it is public", Modifier.isPublic(makers[0].getModifiers()), true);
    }

    private static String signature(Method method) {
        String types = Arrays.toString(Arrays.stream(method.getParameterTypes()).map(Class::getName).toArray());
        return method.getReturnType().getName() + " " + method.getName()
                + "(" + types.substring(1, types.length() - 1) + ")";
    }

    private static void classesInside() {
        Set<String> faceNames = new HashSet<>();
        for (String method : FACE) {
            faceNames.add(method.substring(method.indexOf(' ') + 1, method.indexOf('(')));
        }
        Class<?>[] inside = ForumWeights.class.getDeclaredClasses();
        CHECKS.due("few classes", inside.length < MOST_CLASSES, true);
        checkClass(ForumWeights.class, Set.of());
        for (Class<?> one : inside) {
            int kind = one.getModifiers();
            CHECKS.due(one + " is static", Modifier.isStatic(kind), true);
            CHECKS.due(one + " is public or protected", Modifier.isPublic(kind) || Modifier.isProtected(kind), false);
            checkClass(one, faceNames);
        }
    }

    private static void checkClass(Class<?> one, Set<String> takenNames) {
        int fields = 0;
        for (Field field : one.getDeclaredFields()) {
            boolean isStatic = Modifier.isStatic(field.getModifiers());
            fields += isStatic ? 0 : 1;
            CHECKS.due(field + " is static and not final", isStatic && !Modifier.isFinal(field.getModifiers()), false);
        }
        CHECKS.due(one + " has few fields", fields <= MOST_FIELDS, true);
        for (Method method : one.getDeclaredMethods()) {
            CHECKS.due(method + " has few parameters", method.getParameterCount() <= MOST_PARAMETERS, true);
            CHECKS.due(method + " bears a name of the face", takenNames.contains(method.getName()), false);
            boolean isHiddenTwin = Modifier.isPrivate(method.getModifiers())
                    && FACE.stream().anyMatch(open -> open.contains(" " + method.getName() + "("));
            CHECKS.due(method + " is a private one with a name of the face", isHiddenTwin, false);
        }
    }

    private static void imports(String text) {
        Matcher found = Pattern.compile("import\\s+([\\w.*]+)").matcher(text);
        while (found.find()) {
            boolean isAllowed = Set.of("java.util.Arrays", "java.util.ArrayList", "java.util.List", "java.util.Iterator")
                    .contains(found.group(1));
            CHECKS.due("import " + found.group(1), isAllowed, true);
        }
    }

    /** A method ends at the first line that has nothing but a brace at the same depth. */
    private static void lengths(String text) {
        Pattern head = Pattern.compile("^( {4}| {8})\\w.*\\) \\{$");
        String[] lines = text.split("\n", -1);
        int methods = 0;
        for (int at = 0; at < lines.length; at++) {
            Matcher found = head.matcher(lines[at]);
            if (found.matches()) {
                int end = at;
                while (end < lines.length && !lines[end].equals(found.group(1) + "}")) {
                    end++;
                }
                methods++;
                CHECKS.due(lines[at].trim() + " is short", end - at < MOST_LINES_OF_A_METHOD, true);
            }
        }
        CHECKS.due("methods were found", methods > FACE.size(), true);
    }

    private static String withoutComments(String text) {
        return text.replaceAll("(?s)/\\*.*?\\*/", "").replaceAll("//[^\n]*", "");
    }
}
