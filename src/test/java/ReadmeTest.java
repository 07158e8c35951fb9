import java.io.IOException;
import java.lang.reflect.Method;
import java.lang.reflect.Modifier;
import java.nio.file.Files;
import java.nio.file.Path;
import java.util.List;
import java.util.Map;
import java.util.regex.Matcher;
import java.util.regex.Pattern;
import java.util.stream.Stream;

/** Makes the calls that README.md shows, one behind another, and compares the answers that it tells. */
public final class ReadmeTest {
    private static final Check check = new Check();
    private static final Pattern ANSWERED = Pattern.compile("bets\\.(\\w+)\\(([-0-9, ]*)\\); +// ([-0-9A-Z]+): .*");
    private static final Pattern TEXT = Pattern.compile("(?:String )?text = \"([^\"]*)\";");
    private static final List<String> LOOP = List.of("for (int i = 0; i < text.length(); i++) {", "}");
    private static final Map<String, Integer> NAMED = Map.of("NONE", NodBets.NONE, "BAD", NodBets.BAD,
            "STATE", NodBets.STATE, "FULL", NodBets.FULL);

    private static NodBets bets = null;
    private static String text = "";

    public static void main(String[] args) throws IOException, ReflectiveOperationException {
        String page = Files.readString(Path.of("README.md"));
        Matcher block = Pattern.compile("(?s)```java\n(.*?)```").matcher(page);
        while (block.find()) {
            for (String line : block.group(1).split("\n")) {
                follow(line.strip());
            }
        }
        tellsOfEveryCall(page);
        namesEveryTest(page);
        check.end();
    }

    private static void follow(String line) throws ReflectiveOperationException {
        Matcher answered = ANSWERED.matcher(line);
        Matcher newText = TEXT.matcher(line);
        if (line.equals("NodBets bets = new NodBets();")) {
            bets = new NodBets();
        } else if (newText.matches()) {
            text = newText.group(1);
        } else if (line.equals("bets.feed(text.charAt(i));")) {
            Check.feed(bets, text);
        } else if (answered.matches()) {
            check.due("README.md: " + line, call(answered.group(1), answered.group(2)), number(answered.group(3)));
        } else {
            check.holds("README.md: a line that is known: " + line, LOOP.contains(line));
        }
    }

    private static int call(String name, String list) throws ReflectiveOperationException {
        String[] numbers = list.isBlank() ? new String[0] : list.split(", ");
        Class<?>[] types = new Class<?>[numbers.length];
        Object[] arguments = new Object[numbers.length];
        for (int i = 0; i < numbers.length; i++) {
            types[i] = int.class;
            arguments[i] = Integer.valueOf(numbers[i]);
        }
        return (int) NodBets.class.getMethod(name, types).invoke(bets, arguments);
    }

    private static int number(String told) {
        return NAMED.containsKey(told) ? NAMED.get(told) : Integer.parseInt(told);
    }

    private static void tellsOfEveryCall(String page) {
        for (Method method : NodBets.class.getDeclaredMethods()) {
            if (Modifier.isPublic(method.getModifiers())) {
                check.holds("README.md tells of " + method.getName(), page.contains("`" + method.getName() + "("));
            }
        }
    }

    private static void namesEveryTest(String page) throws IOException {
        try (Stream<Path> files = Files.list(Path.of("src/test/java"))) {
            files.map(file -> file.getFileName().toString()).filter(name -> name.endsWith("Test.java"))
                    .forEach(name -> check.holds("README.md names " + name,
                            page.contains("| `" + name.replace(".java", "") + "` |")));
        }
    }
}
