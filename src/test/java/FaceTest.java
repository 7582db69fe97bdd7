import java.lang.reflect.Constructor;
import java.lang.reflect.Field;
import java.lang.reflect.Method;
import java.lang.reflect.Modifier;
import java.util.ArrayList;
import java.util.Arrays;
import java.util.List;
import java.util.TreeSet;

/** The public face is the document's, and rules 1, 5 and 11 of LANGUAGE.md as far as classes show them. */
public final class FaceTest {
    private static final String[] FACE = {"service()", "source(int, int, int)", "count(int, int, int, int, int)",
        "ticks(int)", "promise(int, int, int, boolean)", "grace(int, int, int)", "sum(int, int, int, int)",
        "span(int, int, int)", "broken(int, int)", "part(int)", "made(int, int, int)",
        "alarm(int, int, int, int)", "rings(int, int)", "soonest(int, int, int, int)",
        "best(int, int, int, int)", "change(int, int, int)", "let(int)", "settle(int, int)", "plan(int)",
        "planned(int)", "look(int, int)", "desk(int)"};
    private static final List<String> TRUTHS = List.of("grace", "let", "settle");

    public static void main(String[] args) {
        Check.due("NONE", ShareKeeper.NONE, -1);
        Check.due("public and final", Modifier.isPublic(ShareKeeper.class.getModifiers())
            && Modifier.isFinal(ShareKeeper.class.getModifiers()), true);
        methods();
        fieldsAndConstructors();
        classesInside();
        Check.finish();
    }

    private static void methods() {
        TreeSet<String> due = new TreeSet<>(Arrays.asList(FACE));
        List<String> names = new ArrayList<>();
        for (Method m : ShareKeeper.class.getDeclaredMethods()) {
            if (Modifier.isPublic(m.getModifiers())) {
                names.add(m.getName());
                Check.due(m + " is of the face", due.remove(signature(m)), true);
                Check.due(m + " answers as it should",
                    m.getReturnType() == (TRUTHS.contains(m.getName()) ? boolean.class : int.class), true);
            }
        }
        Check.due("missing of the face: " + due, due.size(), 0);
        for (Method m : ShareKeeper.class.getDeclaredMethods()) {
            if (!Modifier.isPublic(m.getModifiers())) {
                Check.due(m + " is private", Modifier.isPrivate(m.getModifiers()), true);
                Check.due(m + " has a name of its own", names.contains(m.getName()), false);
            }
        }
    }

    private static String signature(Method m) {
        List<String> types = new ArrayList<>();
        for (Class<?> type : m.getParameterTypes()) {
            types.add(type.getName());
        }
        return m.getName() + "(" + String.join(", ", types) + ")";
    }

    private static void fieldsAndConstructors() {
        for (Field f : ShareKeeper.class.getDeclaredFields()) {
            boolean open = !Modifier.isPrivate(f.getModifiers());
            Check.due(f + " is private but for NONE", open, f.getName().equals("NONE"));
        }
        Constructor<?>[] made = ShareKeeper.class.getDeclaredConstructors();
        Check.due("one constructor", made.length, 1);
        Check.due("public, without arguments", Modifier.isPublic(made[0].getModifiers())
            && made[0].getParameterCount() == 0, true);
    }

    private static void classesInside() {
        List<Class<?>> all = new ArrayList<>(Arrays.asList(ShareKeeper.class.getDeclaredClasses()));
        Check.due("at most twelve classes", all.size() < 12, true);
        for (Class<?> inside : all) {
            Check.due(inside + " is static", Modifier.isStatic(inside.getModifiers()), true);
            Check.due(inside + " is not public", Modifier.isPublic(inside.getModifiers()), false);
        }
        all.add(ShareKeeper.class);
        for (Class<?> each : all) {
            int own = 0;
            for (Field f : each.getDeclaredFields()) {
                boolean constant = Modifier.isStatic(f.getModifiers());
                own += constant ? 0 : 1;
                Check.due(f + " is final if it is static", !constant || Modifier.isFinal(f.getModifiers()), true);
            }
            Check.due(each + " has at most twenty fields", own <= 20, true);
            for (Method m : each.getDeclaredMethods()) {
                Check.due(m + " takes at most seven", m.getParameterCount() <= 7, true);
            }
        }
    }
}
