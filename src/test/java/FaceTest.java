import java.lang.reflect.Constructor;
import java.lang.reflect.Field;
import java.lang.reflect.Method;
import java.lang.reflect.Modifier;
import java.util.ArrayList;
import java.util.Arrays;
import java.util.List;
import java.util.NoSuchElementException;
import java.util.TreeSet;

/** The public face is the document's, and rules 1, 5 and 11 of LANGUAGE.md as far as classes show them. */
public final class FaceTest {
    private static final String[] FACE = {"int service()", "int source(int, int, int)",
        "int count(int, int, int, int, int)", "int ticks(int)", "int promise(int, int, int, boolean)",
        "boolean grace(int, int, int)", "int sum(int, int, int, int)", "int span(int, int, int)",
        "int broken(int, int)", "int part(int)", "int made(int, int, int)", "int alarm(int, int, int, int)",
        "int rings(int, int)", "int soonest(int, int, int, int)", "int best(int, int, int, int)",
        "int change(int, int, int)", "boolean let(int)", "boolean settle(int, int)", "int plan(int)",
        "int planned(int)", "int look(int, int)", "int desk(int)"};

    public static void main(String[] args) {
        constant();
        theClass();
        constructor();
        methods();
        noOtherMembers();
        classesInside();
        Check.finish();
    }

    private static void constant() {
        Check.sentence("The constants", "NONE = -1");
        Check.due("NONE", ShareKeeper.NONE, -1);
    }

    private static void theClass() {
        Check.sentence("The public face", "public final class ShareKeeper");
        Check.due("public", Modifier.isPublic(ShareKeeper.class.getModifiers()), true);
        Check.due("final", Modifier.isFinal(ShareKeeper.class.getModifiers()), true);
    }

    private static void constructor() {
        Check.sentence("The public face", "public ShareKeeper()");
        Constructor<?>[] made = ShareKeeper.class.getConstructors();
        Check.due("public constructors", made.length, 1);
        Check.due("its arguments", made[0].getParameterCount(), 0);
    }

    private static void methods() {
        Check.sentence("The public face", "public int service() .. public int desk(int what)");
        TreeSet<String> due = new TreeSet<>(Arrays.asList(FACE));
        for (Method m : ShareKeeper.class.getDeclaredMethods()) {
            if (Modifier.isPublic(m.getModifiers())) {
                Check.due(m + " is of the face", due.remove(signature(m)), true);
                Check.due(m + " is of an object", Modifier.isStatic(m.getModifiers()), false);
                Class<?>[] thrown = m.getExceptionTypes();
                Check.due(m + " tells what it throws", thrown.length, m.getName().equals("span") ? 1 : 0);
                Check.due(m + " tells what it throws",
                    thrown.length == 0 || thrown[0] == NoSuchElementException.class, true);
            }
        }
        Check.due("missing of the face: " + due, due.size(), 0);
    }

    private static String signature(Method m) {
        List<String> types = new ArrayList<>();
        for (Class<?> type : m.getParameterTypes()) {
            types.add(type.getName());
        }
        return m.getReturnType().getName() + " " + m.getName() + "(" + String.join(", ", types) + ")";
    }

    private static void noOtherMembers() {
        Check.sentence("LANGUAGE.md 1", "no other public, protected or package-visible member");
        List<String> names = new ArrayList<>();
        for (String face : FACE) {
            names.add(face.substring(face.indexOf(' ') + 1, face.indexOf('(')));
        }
        for (Method m : ShareKeeper.class.getDeclaredMethods()) {
            if (!Modifier.isPublic(m.getModifiers())) {
                Check.due(m + " is private", Modifier.isPrivate(m.getModifiers()), true);
                Check.due(m + " has a name of its own", names.contains(m.getName()), false);
            }
        }
        for (Field f : ShareKeeper.class.getDeclaredFields()) {
            Check.due(f + " is private but for NONE", !Modifier.isPrivate(f.getModifiers()), f.getName().equals("NONE"));
        }
        Check.due("constructors", ShareKeeper.class.getDeclaredConstructors().length, 1);
    }

    private static void classesInside() {
        Check.sentence("LANGUAGE.md 1, 5, 11", "static classes; static fields are final; at most seven parameters");
        List<Class<?>> all = new ArrayList<>(Arrays.asList(ShareKeeper.class.getDeclaredClasses()));
        for (Class<?> inside : all) {
            Check.due(inside + " is static", Modifier.isStatic(inside.getModifiers()), true);
            Check.due(inside + " is public", Modifier.isPublic(inside.getModifiers()), false);
        }
        all.add(ShareKeeper.class);
        for (Class<?> each : all) {
            for (Field f : each.getDeclaredFields()) {
                Check.due(f + " is final if it is static",
                    !Modifier.isStatic(f.getModifiers()) || Modifier.isFinal(f.getModifiers()), true);
            }
            for (Method m : each.getDeclaredMethods()) {
                Check.due(m + " takes at most seven", m.getParameterCount() <= 7, true);
            }
        }
    }
}
