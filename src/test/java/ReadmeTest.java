import java.io.IOException;
import java.lang.reflect.Method;
import java.lang.reflect.Modifier;
import java.nio.file.Files;
import java.nio.file.Path;
import java.util.Set;
import java.util.TreeSet;
import java.util.regex.Matcher;
import java.util.regex.Pattern;

/** The run of calls in README.md: each one answers what stands behind it, and no call of the face is missing. */
public final class ReadmeTest {
    private static final Pattern CALL = Pattern.compile("port\\.(\\w+)\\(([^)]*)\\); +// (true|false|-?\\d+)\\b.*");

    public static void main(String[] args) throws IOException, ReflectiveOperationException {
        Checks c = new Checks("ReadmeTest");
        StaplePort port = new StaplePort();
        Set<String> used = new TreeSet<>();
        for (String line : Files.readAllLines(Path.of("README.md"))) {
            if (!line.startsWith("port.")) {
                continue;
            }
            Matcher call = CALL.matcher(line);
            boolean told = call.matches();
            c.due("'" + line + "' is a call with its answer", told, true);
            if (told) {
                used.add(call.group(1));
                c.due(line, number(answer(port, call.group(1), call.group(2))), number(call.group(3)));
            }
        }
        for (Method m : StaplePort.class.getDeclaredMethods()) {
            if (Modifier.isPublic(m.getModifiers())) {
                c.due("README.md uses " + m.getName(), used.contains(m.getName()), true);
            }
        }
        c.end();
    }

    private static String answer(StaplePort port, String name, String given) throws ReflectiveOperationException {
        String[] texts = given.isBlank() ? new String[0] : given.split(", *");
        Class<?>[] types = new Class<?>[texts.length];
        Object[] numbers = new Object[texts.length];
        for (int i = 0; i < texts.length; i++) {
            types[i] = int.class;
            numbers[i] = Integer.decode(texts[i]);
        }
        return String.valueOf(StaplePort.class.getMethod(name, types).invoke(port, numbers));
    }

    private static long number(String answer) {
        return answer.equals("true") ? 1 : answer.equals("false") ? 0 : Long.parseLong(answer);
    }

    private ReadmeTest() {
    }
}
