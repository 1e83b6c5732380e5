import java.io.IOException;
import java.lang.reflect.Method;
import java.lang.reflect.Modifier;
import java.nio.file.Files;
import java.nio.file.Path;
import java.util.List;
import java.util.regex.Matcher;
import java.util.regex.Pattern;

/** README.md shows calls with their answers: they are done here, in its order, so that it never tells what is not so. */
public final class ReadmeTest {
    private static final Pattern SHOWN = Pattern.compile("desk\\.(\\w+)\\((.*)\\); *// (true|false|-?\\d+)\\b.*");
    private static final int LEAST_SHOWN = 20;

    private ReadmeTest() {
    }

    public static void main(String[] args) throws IOException, ReflectiveOperationException {
        List<String> lines = Files.readAllLines(Path.of("README.md"));
        shownCallsAnswerSo(lines);
        everyCallIsNamed(String.join("\n", lines));
        Check.finish();
    }

    private static void shownCallsAnswerSo(List<String> lines) throws ReflectiveOperationException {
        SwarmDesk desk = new SwarmDesk();
        int shown = 0;
        for (String line : lines) {
            if (line.startsWith("desk.")) {
                Matcher call = SHOWN.matcher(line);
                boolean readable = call.matches();
                Check.yes("README.md shows a call with its answer: " + line, readable);
                if (readable) {
                    Object got = answer(desk, call.group(1), call.group(2));
                    Check.yes("README.md, " + line + " (it answered " + got + ")", call.group(3).equals("" + got));
                    shown++;
                }
            }
        }
        Check.yes("README.md shows " + LEAST_SHOWN + " calls or more", shown >= LEAST_SHOWN);
    }

    private static Object answer(SwarmDesk desk, String name, String list) throws ReflectiveOperationException {
        String[] words = list.isEmpty() ? new String[0] : list.split(", ");
        Object[] values = new Object[words.length];
        for (int i = 0; i < words.length; i++) {
            values[i] = value(words[i]);
        }
        for (Method method : SwarmDesk.class.getDeclaredMethods()) {
            if (method.getName().equals(name) && Modifier.isPublic(method.getModifiers())) {
                return method.invoke(desk, values);
            }
        }
        return "no such call";
    }

    private static Object value(String word) {
        if (word.equals("true") || word.equals("false")) {
            return word.equals("true");
        }
        return Integer.decode(word);
    }

    private static void everyCallIsNamed(String text) {
        for (Method method : SwarmDesk.class.getDeclaredMethods()) {
            if (Modifier.isPublic(method.getModifiers())) {
                Check.yes("README.md names " + method.getName(), text.contains("`" + method.getName() + "`"));
            }
        }
    }
}
