import java.io.File;
import java.lang.reflect.Method;
import java.lang.reflect.Modifier;
import java.nio.charset.StandardCharsets;
import java.nio.file.Files;
import java.nio.file.Path;
import java.util.List;
import java.util.regex.Matcher;
import java.util.regex.Pattern;

/** README.md: its calls answer what it says, its answers have their numbers, its tests are all there. */
public final class ReadmeTest {
    private static final Pattern CALL = Pattern.compile("x\\.(\\w+)\\((.*?)\\); +// (-?\\d+)(.*)");

    private ReadmeTest() {
    }

    public static void main(String[] args) throws Exception {
        List<String> page = Files.readAllLines(Path.of("README.md"), StandardCharsets.UTF_8);
        runCalls(page);
        answers(page);
        tests(page);
        Check.end("ReadmeTest");
    }

    /** All blocks of Java are one run; a line that can not be run would be a line that nobody checks. */
    private static void runCalls(List<String> page) throws Exception {
        HourRoads x = null;
        boolean isJava = false;
        int calls = 0;
        for (String line : page) {
            if (line.startsWith("```")) {
                isJava = line.equals("```java");
            } else if (isJava && line.equals("HourRoads x = new HourRoads();")) {
                x = new HourRoads();
            } else if (isJava) {
                Matcher m = CALL.matcher(line);
                boolean isCall = m.matches() && x != null;
                Check.isTrue("README: a call in '" + line + "'", isCall);
                if (isCall) {
                    Check.due("README: " + line, call(x, m.group(1), m.group(2)), Long.parseLong(m.group(3)));
                    fedText(m);
                    calls++;
                }
            }
        }
        Check.isTrue("README: a run of 40 calls or more, there are " + calls, calls >= 40);
    }

    private static int call(HourRoads x, String name, String told) throws Exception {
        for (Method method : HourRoads.class.getDeclaredMethods()) {
            if (method.getName().equals(name) && Modifier.isPublic(method.getModifiers())) {
                String[] words = told.isEmpty() ? new String[0] : told.split(", ");
                Object[] arguments = new Object[words.length];
                for (int i = 0; i < words.length; i++) {
                    arguments[i] = argument(method.getParameterTypes()[i], words[i]);
                }
                return (Integer) method.invoke(x, arguments);
            }
        }
        throw new IllegalStateException("no call " + name);
    }

    private static Object argument(Class<?> type, String word) {
        if (type == boolean.class) {
            return Boolean.valueOf(word);
        }
        if (type == long.class) {
            return Long.decode(word.substring(0, word.length() - 1));
        }
        return Integer.valueOf(word);
    }

    /** The text beside a feed is the one that its number holds. */
    private static void fedText(Matcher m) {
        if (m.group(1).equals("feed")) {
            long v = (Long) argument(long.class, m.group(2));
            StringBuilder text = new StringBuilder();
            for (int shift = 56; shift >= 0; shift -= 8) {
                text.append((char) (v >>> shift & 255));
            }
            Check.isTrue("README: '" + text + "' is fed", m.group(4).trim().equals("\"" + text + "\""));
        }
    }

    private static void answers(List<String> page) {
        String[] names = {"BAD", "STATE", "FULL", "NONE"};
        int[] numbers = {HourRoads.BAD, HourRoads.STATE, HourRoads.FULL, HourRoads.NONE};
        for (int i = 0; i < names.length; i++) {
            String start = "| `" + names[i] + "` " + numbers[i] + " |";
            Check.isTrue("README: " + names[i], page.stream().anyMatch(line -> line.startsWith(start)));
        }
    }

    private static void tests(List<String> page) {
        String[] files = new File("src/test/java").list((folder, name) -> name.endsWith("Test.java"));
        for (String file : files) {
            Pattern name = Pattern.compile("\\|.*\\b" + file.replace(".java", "") + "\\b.*\\|.*\\|");
            Check.isTrue("README: " + file, page.stream().anyMatch(line -> name.matcher(line).matches()));
        }
    }
}
