import java.lang.reflect.Field;
import java.lang.reflect.Method;
import java.lang.reflect.Modifier;
import java.nio.file.Files;
import java.nio.file.Path;
import java.util.Set;
import java.util.regex.Matcher;
import java.util.regex.Pattern;

/**
 * Rules of ../shared/LANGUAGE.md that the source's text or its classes show without a parser; the
 * face's own are in FaceTest. It takes the source's indents as they are: four blanks a level.
 */
public final class LanguageTest {
    private static final Set<String> IMPORTS = Set.of(
        "java.util.ArrayList", "java.util.List", "java.util.Arrays", "java.util.Iterator");
    private static final Set<String> NO_WORDS = Set.of(
        "throw", "throws", "try", "catch", "finally", "synchronized", "assert", "native",
        "volatile", "transient", "package", "var", "equals", "hashCode", "toString", "getClass",
        "System", "Thread", "Runtime", "Random", "Object", "Double", "Float", "Short", "Byte",
        "Character", "Boolean");
    private static final Set<Class<?>> CONSTANTS = Set.of(
        int.class, long.class, boolean.class, char.class, String.class, int[].class,
        long[].class, char[].class, byte[].class);

    public static void main(String[] args) throws Exception {
        String source = Files.readString(Path.of("src/main/java/HandLoom.java"));
        String code = withoutComments(source);
        imports(code);
        words(code);
        signs(code);
        methodLines(code);
        Class<?>[] inside = HandLoom.class.getDeclaredClasses();
        Due.is("11: at most some twelve classes", inside.length < 12, true);
        members(HandLoom.class);
        for (Class<?> c : inside) {
            Due.is("1: not public " + c, c.getModifiers() & (Modifier.PUBLIC | Modifier.PROTECTED),
                0);
            members(c);
        }
        Due.end();
    }

    private static String withoutComments(String source) {
        return source.replaceAll("(?s)/\\*.*?\\*/", "").replaceAll("//[^\n]*", "");
    }

    private static void imports(String code) {
        Matcher found = Pattern.compile("import ([^;]*);").matcher(code);
        while (found.find()) {
            Due.is("4: import " + found.group(1), IMPORTS.contains(found.group(1)), true);
        }
        String rest = code.replaceAll("import [^;]*;", "");
        Due.is("4: no library by its long name", rest.contains("java."), false);
    }

    private static void words(String code) {
        Matcher word = Pattern.compile("\\w+").matcher(code.replace("System.arraycopy", ""));
        while (word.find()) {
            Due.is("4, 6, 13: the word " + word.group(), NO_WORDS.contains(word.group())
                || word.group().endsWith("Exact"), false);
        }
    }

    private static void signs(String code) {
        for (String sign : new String[] {"->", "::", "@"}) {
            Due.is("2, 4: " + sign, code.contains(sign), false);
        }
        Due.is("2: no class without a name",
            Pattern.compile("new \\w+(<\\w*>)?\\([^;]*\\)\\s*\\{").matcher(code).find(), false);
        Due.is("5: no static block", Pattern.compile("static\\s*\\{").matcher(code).find(), false);
        Due.is("9: no loop without an end",
            Pattern.compile("while \\(true\\)|; *; *[^;]*\\) \\{").matcher(code).find(), false);
    }

    private static void methodLines(String code) {
        Matcher method =
            Pattern.compile("(?m)^( {4}| {8})\\S[^;={}]*\\([^;{}]*\\) \\{\n(?s:.*?)^\\1\\}")
                .matcher(code);
        int found = 0;
        while (method.find()) {
            found++;
            long lines = method.group().lines().count();
            Due.is("11: short " + method.group().lines().findFirst(), lines <= 60, true);
        }
        Due.is("11: methods were found", found > 17, true);
    }

    private static void members(Class<?> c) {
        int fields = 0;
        for (Field f : c.getDeclaredFields()) {
            if (Modifier.isStatic(f.getModifiers())) {
                Due.is("5: final " + f, Modifier.isFinal(f.getModifiers()), true);
                Due.is("5: a constant " + f, CONSTANTS.contains(f.getType()), true);
            } else {
                fields++;
            }
        }
        Due.is("11: some twenty fields of " + c, fields <= 20, true);
        for (Method m : c.getDeclaredMethods()) {
            Due.is("11: seven parameters of " + m, m.getParameterCount() <= 7, true);
        }
    }
}
