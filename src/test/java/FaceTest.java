import java.lang.reflect.Constructor;
import java.lang.reflect.Field;
import java.lang.reflect.Method;
import java.lang.reflect.Modifier;
import java.util.Arrays;
import java.util.Set;
import java.util.TreeSet;

/** The class shows the document's face and nothing else, and none of its private methods bears a name of the face. */
public final class FaceTest {
    private static final Check CHECK = new Check("FaceTest");

    private static final Set<String> METHODS = new TreeSet<>(Arrays.asList(
        "boolean poke[int, int]", "int spawn[int, int]", "int step[]", "int run[int]", "int tick[]", "boolean kill[int]",
        "int state[int]", "int task[int, int]", "int stack[int, int]", "int next[]", "int queue[int]", "int queued[int, int]",
        "int waiter[int, boolean, int]", "int memory[int]", "int emitted[]", "int out[int]", "int why[int]", "int clock[]"));

    public static void main(String[] args) {
        CHECK.due("public and final", Modifier.PUBLIC | Modifier.FINAL, TaskKernel.class.getModifiers());
        methods();
        constructors();
        fields();
        nested();
        CHECK.finish();
    }

    private static void methods() {
        Set<String> shown = new TreeSet<>();
        Set<String> shownNames = new TreeSet<>();
        for (Method m : TaskKernel.class.getDeclaredMethods()) {
            if (!Modifier.isPrivate(m.getModifiers())) {
                shown.add(m.getReturnType() + " " + m.getName() + Arrays.toString(m.getParameterTypes()));
                shownNames.add(m.getName());
                CHECK.due(m.getName() + " is public and no more", Modifier.PUBLIC, m.getModifiers());
            }
        }
        CHECK.due("the methods " + shown, true, shown.equals(METHODS));
        for (Method m : TaskKernel.class.getDeclaredMethods()) {
            boolean hidden = Modifier.isPrivate(m.getModifiers());
            CHECK.due("a private method named " + m.getName(), false, hidden && shownNames.contains(m.getName()));
        }
    }

    private static void constructors() {
        Constructor<?>[] all = TaskKernel.class.getDeclaredConstructors();
        CHECK.due("constructors", 1, all.length);
        CHECK.due("the constructor is public", Modifier.PUBLIC, all[0].getModifiers());
        CHECK.due("its parameters", true, Arrays.toString(all[0].getParameterTypes()).equals("[int, int, int, int]"));
    }

    private static void fields() {
        for (Field f : TaskKernel.class.getDeclaredFields()) {
            boolean shown = !Modifier.isPrivate(f.getModifiers());
            CHECK.due("a shown field " + f.getName(), f.getName().equals("NONE"), shown);
            boolean fixed = !Modifier.isStatic(f.getModifiers()) || Modifier.isFinal(f.getModifiers());
            CHECK.due("a static field is final: " + f.getName(), true, fixed);
        }
    }

    private static void nested() {
        for (Class<?> c : TaskKernel.class.getDeclaredClasses()) {
            CHECK.due(c.getName() + " is static", true, Modifier.isStatic(c.getModifiers()));
            CHECK.due(c.getName() + " is public", false, Modifier.isPublic(c.getModifiers()));
        }
    }
}
