import java.lang.reflect.Constructor;
import java.lang.reflect.Field;
import java.lang.reflect.Method;
import java.lang.reflect.Modifier;
import java.util.Set;
import java.util.TreeSet;

/** The public face, and LANGUAGE.md's rules on members that reflection can see. */
public final class FaceTest {
    private static final Set<String> FACE = Set.of(
        "int thread(int,int,int)", "int cut(int,int)", "int tie(int,int,int)", "int ends(int,int)",
        "int spool(int)", "int act(int,int,int,int,int)", "int swap(int,int,int,int)",
        "int cloth(int,int)", "int snip(int)", "int hang(int,int)", "int cell(int,int)",
        "int weave(int,int,int)", "int card(int,int,int,int,int)", "int unhook()",
        "boolean keeper(int)", "int run(int)", "int told(int)");

    public static void main(String[] args) {
        Class<?> loom = HandLoom.class;
        Due.is("public final", Modifier.isPublic(loom.getModifiers())
            && Modifier.isFinal(loom.getModifiers()), true);
        Due.is("NONE", HandLoom.NONE, -2147483648L);
        methods(loom);
        fields(loom);
        Constructor<?>[] made = loom.getDeclaredConstructors();
        Due.is("constructors", made.length, 1);
        Due.is("public constructor", Modifier.isPublic(made[0].getModifiers()), true);
        Due.is("constructor's parameters", made[0].getParameterCount(), 0);
        for (Class<?> inside : loom.getDeclaredClasses()) {
            Due.is("static " + inside.getName(), Modifier.isStatic(inside.getModifiers()), true);
        }
        Due.end();
    }

    private static void methods(Class<?> loom) {
        Set<String> seen = new TreeSet<>();
        Set<String> publicNames = new TreeSet<>();
        for (Method m : loom.getDeclaredMethods()) {
            if (!Modifier.isPrivate(m.getModifiers())) {
                Due.is("public " + m, Modifier.isPublic(m.getModifiers()), true);
                seen.add(written(m));
                publicNames.add(m.getName());
            }
        }
        Due.is("the methods " + seen, seen.equals(FACE), true);
        for (Method m : loom.getDeclaredMethods()) {
            if (Modifier.isPrivate(m.getModifiers())) {
                Due.is("own name of " + m, publicNames.contains(m.getName()), false);
            }
        }
    }

    private static String written(Method m) {
        StringBuilder text = new StringBuilder();
        text.append(m.getReturnType().getName()).append(' ').append(m.getName()).append('(');
        for (Class<?> type : m.getParameterTypes()) {
            text.append(text.charAt(text.length() - 1) == '(' ? "" : ",").append(type.getName());
        }
        return text.append(')').toString();
    }

    private static void fields(Class<?> loom) {
        for (Field f : loom.getDeclaredFields()) {
            boolean constant = f.getName().equals("NONE");
            Due.is("hidden " + f, Modifier.isPrivate(f.getModifiers()), !constant);
            Due.is("no static state " + f, Modifier.isStatic(f.getModifiers())
                && !Modifier.isFinal(f.getModifiers()), false);
        }
    }
}
