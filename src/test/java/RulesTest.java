import java.lang.reflect.Constructor;
import java.lang.reflect.Field;
import java.lang.reflect.Method;
import java.lang.reflect.Modifier;
import java.nio.file.Files;
import java.nio.file.Path;
import java.util.TreeSet;
import java.util.regex.Matcher;
import java.util.regex.Pattern;

/** LANGUAGE.md, as far as the source's words and the class's face show it. */
public final class RulesTest {
    private static final String FACE = "ask(I) bars(I) best(I) can() corner(IIII) count(I) doubt(IZ) draw() "
        + "end(I) fault() feed(J) heaps() hour(II) hours() judge(I) lay(III) longest(II) must(II) net(III) "
        + "part(III) read(III) road(II) roads() season(I) sheet(III) shortest(II) shut(I) towns(I) tree(I) "
        + "way(II) writers(I) wrong(I)";

    private RulesTest() {
    }

    public static void main(String[] args) throws Exception {
        face();
        words();
        Check.end("RulesTest");
    }

    private static void face() {
        TreeSet<String> found = new TreeSet<>();
        for (Method m : HourRoads.class.getDeclaredMethods()) {
            if (Modifier.isPublic(m.getModifiers())) {
                StringBuilder s = new StringBuilder(m.getName()).append('(');
                for (Class<?> type : m.getParameterTypes()) {
                    s.append(type == int.class ? 'I' : type == long.class ? 'J' : type == boolean.class ? 'Z' : '?');
                }
                found.add(s.append(')').toString());
                Check.isTrue("1: an int from " + m.getName(), m.getReturnType() == int.class);
            } else {
                Check.isTrue("1: " + m.getName() + " is private", Modifier.isPrivate(m.getModifiers()));
            }
        }
        Check.isTrue("1: the face is " + found, String.join(" ", found).equals(FACE));
        for (Field f : HourRoads.class.getDeclaredFields()) {
            boolean isAnswer = "BAD STATE FULL NONE".contains(f.getName());
            Check.isTrue("1: field " + f.getName(), isAnswer == Modifier.isPublic(f.getModifiers())
                && isAnswer != Modifier.isPrivate(f.getModifiers()));
        }
        Constructor<?>[] made = HourRoads.class.getDeclaredConstructors();
        Check.isTrue("1: one public constructor", made.length == 1 && Modifier.isPublic(made[0].getModifiers()));
        Check.isTrue("1: final", Modifier.isFinal(HourRoads.class.getModifiers()));
        for (Class<?> inside : HourRoads.class.getDeclaredClasses()) {
            Check.isTrue("2: " + inside.getName() + " is static", Modifier.isStatic(inside.getModifiers()));
            for (Method m : inside.getDeclaredMethods()) {
                Check.isTrue("1: the name " + m.getName(), !(" " + FACE).contains(" " + m.getName() + "("));
                Check.isTrue("11: parameters of " + m.getName(), m.getParameterCount() <= 7);
            }
        }
        Check.isTrue("11: classes", HourRoads.class.getDeclaredClasses().length <= 12);
    }

    private static void words() throws Exception {
        String source = Files.readString(Path.of("src/main/java/HourRoads.java"));
        for (int i = 0; i < source.length(); i++) {
            if (source.charAt(i) > 126) {
                Check.isTrue("3: a sign above 126 at " + i, false);
            }
        }
        String bare = source.replaceAll("(?s)/\\*.*?\\*/", " ").replaceAll("//[^\n]*", " ");
        String[] banned = {"\\bthrow\\b", "\\btry\\b", "\\bcatch\\b", "\\bsynchronized\\b", "\\bassert\\b", "->",
            "::", "\\bimport\\b", "\\bpackage\\b", "\\bstatic\\s*\\{", "Exact\\b", "\\bThread\\b", "\\bSystem\\.[^a]",
            "\\bRandom\\b", "\\bprotected\\b", "\\bwhile\\s*\\(true", "@"};
        for (String word : banned) {
            Matcher m = Pattern.compile(word).matcher(bare);
            Check.isTrue("4, 6: " + word + " stands in the source", !m.find());
        }
        int lines = 0;
        for (String line : source.split("\n")) {
            boolean isMethod = line.matches("    (    )?[a-z].*\\) \\{");
            lines = isMethod ? 0 : lines + 1;
            if (line.matches("    (    )?\\}")) {
                Check.isTrue("11: a method of " + lines + " lines", lines <= 60);
            }
        }
    }
}
