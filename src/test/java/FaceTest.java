import java.lang.reflect.Constructor;
import java.lang.reflect.Field;
import java.lang.reflect.Method;
import java.lang.reflect.Modifier;
import java.util.Arrays;
import java.util.TreeSet;

/** The public face: the class, its constant, its constructor and its methods, and nothing more. */
public final class FaceTest {
    private static final String INDEX = "IndexOutOfBoundsException";
    private static final String ARGUMENT = "IllegalArgumentException";
    private static final String STATE = "IllegalStateException";

    public static void main(String[] args) {
        Class<?> face = DogTrials.class;
        Check.same("public", Modifier.isPublic(face.getModifiers()) ? 1 : 0, 1);
        Check.same("final", Modifier.isFinal(face.getModifiers()) ? 1 : 0, 1);
        Check.same("NONE", DogTrials.NONE, -9);
        Check.same("members as in the document", members(face).equals(due()) ? 1 : 0, 1);
        if (!members(face).equals(due())) {
            System.out.println("are: " + members(face));
            System.out.println("due: " + due());
        }
        Check.end();
    }

    private static TreeSet<String> members(Class<?> face) {
        TreeSet<String> all = new TreeSet<>();
        for (Method m : face.getDeclaredMethods()) {
            if (!Modifier.isPrivate(m.getModifiers())) {
                all.add(describe(m));
            }
        }
        for (Field f : face.getDeclaredFields()) {
            if (!Modifier.isPrivate(f.getModifiers())) {
                all.add(f.getType() + " " + f.getName());
            }
        }
        for (Constructor<?> c : face.getDeclaredConstructors()) {
            all.add("new" + Arrays.toString(c.getParameterTypes()) + Modifier.isPublic(c.getModifiers()));
        }
        return all;
    }

    private static String describe(Method m) {
        StringBuilder text = new StringBuilder();
        text.append(Modifier.isPublic(m.getModifiers()) ? "" : "hidden ");
        text.append(Modifier.isStatic(m.getModifiers()) ? "static " : "");
        text.append(m.getReturnType()).append(' ').append(m.getName());
        text.append(Arrays.toString(m.getParameterTypes()));
        for (Class<?> e : m.getExceptionTypes()) {
            text.append(' ').append(e.getSimpleName());
        }
        return text.toString();
    }

    private static TreeSet<String> due() {
        TreeSet<String> all = new TreeSet<>();
        all.add("int NONE");
        all.add("new[]true");
        put(all, "append[int]", ARGUMENT, STATE);
        put(all, "clearText[]");
        put(all, "errorPosition[]");
        put(all, "load[]", STATE);
        put(all, "about[int]", ARGUMENT);
        put(all, "dog[int, int]", INDEX, ARGUMENT);
        put(all, "lost[int, int]", INDEX);
        put(all, "order[int]", ARGUMENT);
        put(all, "standing[int]", ARGUMENT);
        put(all, "owner[int]", ARGUMENT);
        put(all, "enter[int, int]", ARGUMENT, STATE);
        put(all, "withdraw[int]", INDEX, STATE);
        put(all, "run[long, int]", ARGUMENT, STATE);
        put(all, "interfere[int, int]", INDEX, STATE);
        put(all, "nextDay[int]", ARGUMENT);
        put(all, "setRank[int]", ARGUMENT);
        put(all, "setDraw[int, int]", INDEX, ARGUMENT, STATE);
        put(all, "undo[]", STATE);
        put(all, "whyNot[]");
        put(all, "runsLeft[int]", ARGUMENT);
        put(all, "bestPlace[int]", INDEX);
        put(all, "mayLose[int, int]", INDEX, ARGUMENT);
        put(all, "contenders[]");
        put(all, "runScript[int, long]", ARGUMENT);
        put(all, "simulate[long, int]", ARGUMENT);
        put(all, "save[int]", INDEX);
        put(all, "restore[int]", INDEX, STATE);
        return all;
    }

    private static void put(TreeSet<String> all, String call, String... exceptions) {
        StringBuilder text = new StringBuilder("int ").append(call);
        for (String e : exceptions) {
            text.append(' ').append(e);
        }
        all.add(text.toString());
    }
}
