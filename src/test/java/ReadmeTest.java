import java.lang.reflect.Method;
import java.nio.file.Files;
import java.nio.file.Path;
import java.util.regex.Matcher;
import java.util.regex.Pattern;

/** README.md's example: every call in it, in its order, answers what stands behind it. */
public final class ReadmeTest {
    private static final Pattern CALL =
        Pattern.compile("loom\\.(\\w+)\\(([^)]*)\\);\\s*// (-?\\d+|true|false):.*");

    public static void main(String[] args) throws Exception {
        HandLoom loom = new HandLoom();
        int calls = 0;
        for (String line : Files.readAllLines(Path.of("README.md"))) {
            Matcher call = CALL.matcher(line);
            if (call.matches()) {
                calls++;
                Due.is(line, number(answer(loom, call.group(1), call.group(2))),
                    number(call.group(3)));
            } else {
                Due.is("a call without its answer: " + line, line.startsWith("loom."), false);
            }
        }
        Due.is("README.md has calls", calls > 0, true);
        Due.end();
    }

    private static String answer(HandLoom loom, String name, String list) throws Exception {
        String[] words = list.isEmpty() ? new String[0] : list.split(", ");
        Object[] arguments = new Object[words.length];
        Class<?>[] types = new Class<?>[words.length];
        for (int k = 0; k < words.length; k++) {
            arguments[k] = Integer.valueOf(words[k]);
            types[k] = int.class;
        }
        Method method = HandLoom.class.getMethod(name, types);
        return String.valueOf(method.invoke(loom, arguments));
    }

    private static long number(String answer) {
        return answer.equals("true") ? 1 : answer.equals("false") ? 0 : Long.parseLong(answer);
    }
}
