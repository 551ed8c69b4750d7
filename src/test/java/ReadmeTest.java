import java.io.File;
import java.io.IOException;
import java.lang.reflect.InvocationTargetException;
import java.lang.reflect.Method;
import java.lang.reflect.Modifier;
import java.nio.charset.StandardCharsets;
import java.nio.file.Files;
import java.nio.file.Path;
import java.util.ArrayList;
import java.util.List;
import java.util.Set;
import java.util.TreeSet;
import java.util.regex.Matcher;
import java.util.regex.Pattern;

/** The calls that README.md shows, made as they stand there: each answers what the comment behind it begins with. */
public final class ReadmeTest {
    private static final Path PLACE = Path.of("README.md");
    private static final Path TESTS = Path.of("src", "test", "java");
    private static final int MOST_CALLS = 512;
    private static final String NEW_HOUSE = "TrackerHouse house = new TrackerHouse();";
    private static final Pattern CALL =
        Pattern.compile("house\\.(\\w+)\\(([^()]*)\\); // (throws \\w+|-?\\w+)(?:([:,;] .*))?");
    private static final Pattern QUOTED = Pattern.compile("\"([^\"]*)\"");

    private final Set<String> shown = new TreeSet<>();
    private TrackerHouse house;
    private int calls;

    public static void main(String[] args) throws IOException {
        ReadmeTest test = new ReadmeTest();
        List<String> lines = Files.readAllLines(PLACE, StandardCharsets.UTF_8);
        for (String line : codeOf(lines)) {
            Check.by(line);
            test.make(line);
        }
        Check.by("README.md");
        Check.due("how many calls there are", test.calls > 0, true);
        test.everyCallIsShown();
        everyTestIsTold(lines);
        Check.finish();
    }

    /** The lines within README's java blocks. */
    private static List<String> codeOf(List<String> lines) {
        List<String> code = new ArrayList<>();
        boolean inside = false;
        for (String line : lines) {
            if (line.startsWith("```")) {
                inside = line.equals("```java");
            } else if (inside && !line.isBlank()) {
                code.add(line);
            }
        }
        return code;
    }

    private void make(String line) {
        if (line.equals(NEW_HOUSE)) {
            house = new TrackerHouse();
            calls = 0;
            return;
        }
        Matcher call = CALL.matcher(line);
        if (!call.matches()) {
            Check.wrong("is no call with its answer");
            return;
        }
        String[] given = call.group(2).isEmpty() ? new String[0] : call.group(2).split(", ");
        Method method = methodOf(call.group(1), given.length);
        if (house == null || method == null) {
            Check.wrong("can't be called");
            return;
        }
        calls++;
        Check.due("calls of one house", calls <= MOST_CALLS, true);
        shown.add(method.getName());
        String answer = answerOf(method, given);
        if (!answer.equals(plain(call.group(3)))) {
            Check.wrong("answered " + answer);
        }
        Matcher quoted = QUOTED.matcher(call.group(4) == null ? "" : call.group(4));
        if (method.getName().equals("feed") && quoted.find()) {
            Check.due("whether these are the bytes", fedText(given).startsWith(quoted.group(1)), true);
        }
    }

    private static Method methodOf(String name, int parameters) {
        for (Method method : TrackerHouse.class.getDeclaredMethods()) {
            if (Modifier.isPublic(method.getModifiers()) && method.getName().equals(name)
                && method.getParameterCount() == parameters) {
                return method;
            }
        }
        return null;
    }

    private String answerOf(Method method, String[] given) {
        Object[] values = new Object[given.length];
        for (int i = 0; i < given.length; i++) {
            values[i] = method.getParameterTypes()[i] == boolean.class
                ? (Object) Boolean.valueOf(given[i]) : (Object) Integer.parseInt(plain(given[i]));
        }
        try {
            return String.valueOf(method.invoke(house, values));
        } catch (InvocationTargetException e) {
            return "throws " + e.getCause().getClass().getSimpleName();
        } catch (IllegalAccessException e) {
            throw new IllegalStateException(e);
        }
    }

    /** A number as Java prints it; other words as they are. */
    private static String plain(String word) {
        if (word.equals("NONE")) {
            return String.valueOf(TrackerHouse.NONE);
        }
        return word.startsWith("0x") ? String.valueOf(Integer.parseUnsignedInt(word.substring(2), 16)) : word;
    }

    private static String fedText(String[] given) {
        StringBuilder text = new StringBuilder();
        for (String number : given) {
            int four = Integer.parseInt(plain(number));
            for (int shift = 24; shift >= 0; shift -= 8) {
                text.append((char) (four >> shift & 255));
            }
        }
        return text.toString();
    }

    private void everyCallIsShown() {
        for (Method method : TrackerHouse.class.getDeclaredMethods()) {
            if (Modifier.isPublic(method.getModifiers())) {
                Check.due("whether " + method.getName() + " is shown", shown.contains(method.getName()), true);
            }
        }
    }

    private static void everyTestIsTold(List<String> lines) {
        File[] files = TESTS.toFile().listFiles((directory, name) -> name.endsWith("Test.java"));
        Check.due("whether there are tests", files != null && files.length > 0, true);
        for (File file : files == null ? new File[0] : files) {
            String row = "| `" + file.getName().replace(".java", "") + "` | ";
            Check.due("whether it has " + row, lines.stream().anyMatch(line -> line.startsWith(row)), true);
        }
        for (String line : lines) {
            Matcher row = Pattern.compile("\\| `(\\w+)` \\| .*").matcher(line);
            if (row.matches()) {
                Check.due("whether there is " + row.group(1), Files.exists(TESTS.resolve(row.group(1) + ".java")), true);
            }
        }
    }
}
