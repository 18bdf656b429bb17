import java.io.IOException;
import java.lang.reflect.Method;
import java.nio.file.Files;
import java.nio.file.Path;
import java.util.ArrayList;
import java.util.Arrays;
import java.util.HashMap;
import java.util.List;
import java.util.Map;
import java.util.Set;
import java.util.TreeSet;
import java.util.regex.Matcher;
import java.util.regex.Pattern;
import java.util.stream.Stream;

/** What README.md shows of calls and answers, against the class. */
public final class ReadmeTest {
    private static final int NONE = ForumWeights.NONE;
    private static final Path README = Path.of("README.md");
    private static final Path TESTS = Path.of("src/test/java");

    private static final Pattern BLOCK = Pattern.compile("(?ms)^```java\n(.*?)^```$");
    private static final Pattern STATEMENT = Pattern.compile(
            "(?:(int|long|boolean) (\\w+) = )?forum\\.(\\w+)\\((.*?)\\); +// ([\\w-]+)(?::.*)?");
    private static final Pattern CALL_ROW = Pattern.compile(
            "(?m)^\\| `(\\w+ (\\w+)\\(.*?\\))` \\| (.*?) \\| (?:`(\\w+)`: |(Never refused))[^|]*\\|$");
    private static final Pattern WHAT_ROW = Pattern.compile("(?m)^\\| (\\d[\\d, ]*) \\| [^|]* \\|$");
    private static final Pattern NUMBER = Pattern.compile("\\d+");

    private static final Set<String> NEVER_REFUSED = Set.of("lower", "list");

    private static final Checks CHECKS = new Checks("ReadmeTest");

    private ReadmeTest() {
    }

    public static void main(String[] args) throws IOException, ReflectiveOperationException {
        String readme = Files.readString(README);
        examples(readme);
        calls(readme);
        codesOfPostOf(readme);
        testsAreNamed(readme);
        CHECKS.end();
    }

    private static void same(String what, Object got, Object want) {
        CHECKS.same(what, List.of(String.valueOf(got)), List.of(String.valueOf(want)));
    }

    /** The examples go on from one another, so one object and one row of names serve them all. */
    private static void examples(String readme) throws ReflectiveOperationException {
        CHECKS.of("README.md", "An example");
        List<String> lines = new ArrayList<>();
        Matcher block = BLOCK.matcher(readme);
        while (block.find()) {
            lines.addAll(Arrays.asList(block.group(1).split("\n")));
        }
        same("the first line", lines.get(0), "ForumWeights forum = new ForumWeights();");
        ForumWeights forum = new ForumWeights();
        Map<String, Object> names = new HashMap<>();
        names.put("NONE", NONE);
        names.put("ForumWeights.NONE", NONE);
        Set<String> shown = new TreeSet<>();
        for (String line : lines.subList(1, lines.size())) {
            shown.add(run(forum, names, line));
        }
        same("the calls that are shown", shown, namesOfTheFace());
    }

    /** Makes the call of one line, and answers the method's name. */
    private static String run(ForumWeights forum, Map<String, Object> names, String line)
            throws ReflectiveOperationException {
        Matcher parts = STATEMENT.matcher(line);
        if (!parts.matches()) {
            CHECKS.fail("no call with its answer: " + line);
            return line;
        }
        Method method = methodOf(parts.group(3));
        Object answer = method.invoke(forum, argumentsOf(parts.group(4), names));
        same(line, answer, valueOf(parts.group(5), names));
        if (parts.group(2) != null) {
            same(line + " is of type", parts.group(1), method.getReturnType().getName());
            same(line + " is a new name", names.put(parts.group(2), answer), null);
        }
        return method.getName();
    }

    private static Object[] argumentsOf(String words, Map<String, Object> names) {
        if (words.isEmpty()) {
            return new Object[0];
        }
        return Stream.of(words.split(", ")).map(word -> valueOf(word, names)).toArray();
    }

    private static Object valueOf(String word, Map<String, Object> names) {
        if (names.containsKey(word)) {
            return names.get(word);
        }
        if (word.equals("true") || word.equals("false")) {
            return Boolean.valueOf(word);
        }
        return Integer.valueOf(word);
    }

    private static Method methodOf(String name) {
        for (Method method : ForumWeights.class.getMethods()) {
            if (method.getName().equals(name)) {
                return method;
            }
        }
        throw new IllegalArgumentException("the class has no call " + name);
    }

    private static Set<String> namesOfTheFace() {
        Set<String> names = new TreeSet<>();
        for (String signature : LanguageTest.FACE) {
            names.add(signature.substring(signature.indexOf(' ') + 1, signature.indexOf('(')));
        }
        return names;
    }

    private static void calls(String readme) throws ReflectiveOperationException {
        CHECKS.of("README.md", "The calls");
        Set<String> signatures = new TreeSet<>();
        Matcher row = CALL_ROW.matcher(readme);
        while (row.find()) {
            String signature = row.group(1).replaceAll("(int|boolean) \\w+(?=[,)])", "$1");
            same(signature + " is told once", signatures.add(signature), true);
            refusal(methodOf(row.group(2)), row.group(4));
            if (row.group(2).equals("about")) {
                codesOfAbout(row.group(3));
            }
        }
        same("the calls", signatures, new TreeSet<>(LanguageTest.FACE));
    }

    /** Of nobody's forum, number -2 is refused by all calls that have a number. */
    private static void refusal(Method method, String told) throws ReflectiveOperationException {
        same(method.getName() + " is never refused", told == null, NEVER_REFUSED.contains(method.getName()));
        if (told == null) {
            return;
        }
        ForumWeights forum = new ForumWeights();
        if (method.getName().equals("person")) {
            for (int person = 0; person < 6; person++) {
                forum.person();
            }
        }
        Object[] arguments = Stream.of(method.getParameterTypes())
                .map(type -> type == int.class ? (Object) (-2) : (Object) true).toArray();
        same("refused " + method.getName(), method.invoke(forum, arguments), valueOf(told, Map.of("NONE", NONE)));
    }

    private static void codesOfAbout(String cell) {
        ForumWeights forum = new ForumWeights();
        Set<Integer> answered = new TreeSet<>();
        for (int what = -40; what < 40; what++) {
            if (forum.about(what) != NONE) {
                answered.add(what);
            }
        }
        same("what about() answers", numbersOf(cell), answered);
    }

    private static void codesOfPostOf(String readme) {
        CHECKS.of("README.md", "postOf tells of a post");
        Set<Integer> told = new TreeSet<>();
        Matcher row = WHAT_ROW.matcher(readme);
        while (row.find()) {
            told.addAll(numbersOf(row.group(1)));
        }
        ForumWeights forum = forumWithAJury();
        Set<Integer> answered = new TreeSet<>();
        for (int what = -40; what < 40; what++) {
            if (forum.postOf(1, what) != NONE) {
                answered.add(what);
            }
        }
        same("what postOf() answers", told, answered);
    }

    /** Post 1 answers one and has a jury, so that nothing of it is NONE. */
    private static ForumWeights forumWithAJury() {
        ForumWeights forum = new ForumWeights();
        for (int person = 0; person < 6; person++) {
            forum.person();
        }
        forum.post(0, NONE);
        forum.post(0, 0);
        forum.hide(1, 1);
        forum.hide(2, 1);
        same("there is a jury", forum.appeal(1, 1) != NONE, true);
        return forum;
    }

    private static Set<Integer> numbersOf(String words) {
        Set<Integer> numbers = new TreeSet<>();
        Matcher number = NUMBER.matcher(words);
        while (number.find()) {
            numbers.add(Integer.valueOf(number.group()));
        }
        return numbers;
    }

    private static void testsAreNamed(String readme) throws IOException {
        CHECKS.of("README.md", "How to run its tests");
        Set<String> named = new TreeSet<>();
        Matcher name = Pattern.compile("`(\\w+Test)`").matcher(readme);
        while (name.find()) {
            named.add(name.group(1));
        }
        Set<String> found = new TreeSet<>();
        try (Stream<Path> files = Files.list(TESTS)) {
            files.map(file -> file.getFileName().toString()).filter(file -> file.endsWith("Test.java"))
                    .forEach(file -> found.add(file.substring(0, file.length() - ".java".length())));
        }
        same("the tests", named, found);
    }
}
