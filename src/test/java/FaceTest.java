import java.io.IOException;
import java.lang.management.ManagementFactory;
import java.lang.reflect.Constructor;
import java.lang.reflect.Field;
import java.lang.reflect.Method;
import java.lang.reflect.Modifier;
import java.nio.file.Files;
import java.nio.file.Path;
import java.util.ArrayList;
import java.util.Arrays;
import java.util.List;
import java.util.TreeSet;

/** The public face as the document has it, and such rules of LANGUAGE.md as can be seen from outside. */
public final class FaceTest {
    private static final String N = "NoSuchElementException";
    private static final String I = "IllegalArgumentException";
    private static final String[] FACE = {
        "int feed(int, int, int, int, int)", "int street(int) " + I, "int fault()", "int count(int) " + N,
        "int house(int, int) " + N, "int become(int, int, int) " + N, "boolean mute(int, boolean) " + N, "int undo()",
        "int letter(int, int) " + N, "int unletter()", "int numberings()", "int tries()", "int number(int, int) " + N,
        "int may(int) " + N, "int holds(int, long) " + N + " " + I, "int knot()", "int liars()", "int looks(int) " + N,
        "int doors()", "int hints(int) " + N, "int post(int, int) " + N + " " + I,
        "int feud(int, int, int) " + N + " " + I, "int years(int, int) " + I, "int proof(int) " + N,
        "int build(int) " + N + " " + I, "int changed(int, int, int, int) " + N + " " + I, "int walk(int, int, int) " + I,
        "int door(int) " + N, "int ring(int, int) " + N, "int written(int) " + N, "int left(int, int) " + N + " " + I,
        "int look(int, int) " + N, "int plant(int, int) " + I, "int tried(int, int, int, int) " + N + " " + I,
        "void image()", "boolean restore()"};

    public static void main(String[] args) throws IOException {
        face();
        insides();
        source();
        room();
        Check.end();
    }

    private static String form(Method method) {
        List<String> types = new ArrayList<>();
        for (Class<?> type : method.getParameterTypes()) {
            types.add(type.getSimpleName());
        }
        StringBuilder form = new StringBuilder();
        form.append(method.getReturnType().getSimpleName()).append(' ').append(method.getName());
        form.append('(').append(String.join(", ", types)).append(')');
        for (Class<?> thrown : method.getExceptionTypes()) {
            form.append(' ').append(thrown.getSimpleName());
        }
        return form.toString();
    }

    private static void face() {
        TreeSet<String> there = new TreeSet<>();
        for (Method method : RiddleDoors.class.getDeclaredMethods()) {
            if (!Modifier.isPrivate(method.getModifiers()) && !method.isSynthetic()) {
                Check.due(method + " is public, not static",
                    Modifier.isPublic(method.getModifiers()) && !Modifier.isStatic(method.getModifiers()), true);
                there.add(form(method));
            }
        }
        Check.same("the methods", there.toString(), new TreeSet<>(Arrays.asList(FACE)).toString());
        for (Field field : RiddleDoors.class.getDeclaredFields()) {
            boolean none = field.getName().equals("NONE");
            Check.due(field + " is seen just if it is a constant of the document", Modifier.isPrivate(field.getModifiers()), !none);
            Check.due(field + " is final if it is static",
                !Modifier.isStatic(field.getModifiers()) || Modifier.isFinal(field.getModifiers()), true);
        }
        Constructor<?>[] constructors = RiddleDoors.class.getDeclaredConstructors();
        Check.due("constructors", constructors.length, 1);
        Check.due("it is public", Modifier.isPublic(constructors[0].getModifiers()), true);
        Check.due("the class is final", Modifier.isFinal(RiddleDoors.class.getModifiers()), true);
        Check.due("NONE", RiddleDoors.NONE, -1);
    }

    private static void insides() {
        TreeSet<String> names = new TreeSet<>();
        for (String form : FACE) {
            names.add(form.substring(form.indexOf(' ') + 1, form.indexOf('(')));
        }
        Class<?>[] classes = RiddleDoors.class.getDeclaredClasses();
        Check.due("at most twelve classes", classes.length < 12, true);
        for (Class<?> inside : classes) {
            Check.due(inside + " is static", Modifier.isStatic(inside.getModifiers()), true);
            for (Method method : inside.getDeclaredMethods()) {
                Check.due(method + " bears no name of the face", names.contains(method.getName()), false);
                Check.due(method + " takes at most seven", method.getParameterCount() <= 7, true);
            }
        }
    }

    private static void source() throws IOException {
        String source = Files.readString(Path.of("src/main/java/RiddleDoors.java"));
        String[] never = {"->", "::", "catch", "finally", "synchronized", "assert ", "Exact", "System.out", "package ",
            "hashCode", "toString", "Object", "double", "float", "import java.io", "import java.util.*"};
        for (String word : never) {
            Check.due("'" + word + "' in the source", source.contains(word), false);
        }
        for (int i = 0; i < source.length(); i++) {
            if (source.charAt(i) > 126) {
                Check.due("a sign above 126 at " + i, 1, 0);
            }
        }
    }

    /** Calls make no objects: the rows of an object are made with it, or by the first call that needs them. */
    private static void room() {
        RiddleDoors doors = new RiddleDoors();
        useAll(doors);
        com.sun.management.ThreadMXBean beans = (com.sun.management.ThreadMXBean) ManagementFactory.getThreadMXBean();
        long thread = Thread.currentThread().getId();
        beans.getThreadAllocatedBytes(thread);
        long before = beans.getThreadAllocatedBytes(thread);
        for (int i = 0; i < 10; i++) {
            useAll(doors);
        }
        long made = beans.getThreadAllocatedBytes(thread) - before;
        Check.due("bytes that ten rounds of calls make, " + made + ", are few", made < 20000, true);
    }

    private static void useAll(RiddleDoors doors) {
        doors.feed(0x6d6f7374, 0x20373b68, 0x6f757365, 0x20736179, 0x73206865);
        doors.feed(0x72653c36, 0x3b686f75, 0x73653b68, 0x6f757365, 0x20736179);
        doors.feed(0x73206265, 0x666f7265, 0x3d686572, 0x653b2020, 0x20202020);
        doors.street(54);
        doors.become(0, 0, 3);
        doors.mute(0, true);
        doors.letter(1, 3);
        doors.image();
        doors.undo();
        doors.restore();
        doors.numberings();
        doors.tries();
        doors.number(0, 0);
        doors.may(0);
        doors.holds(0, 1057);
        doors.knot();
        doors.liars();
        doors.looks(0);
        doors.looks(1);
        doors.doors();
        doors.hints(0);
        doors.post(0, 1);
        doors.feud(0, 1, 0);
        doors.years(1, 5);
        doors.proof(0);
        doors.build(0);
        doors.changed(0, 0, 5, 0);
        doors.walk(3, 1, 1);
        doors.door(0);
        doors.ring(0, 0);
        doors.written(0);
        doors.left(0, 1);
        doors.look(0, 1);
        doors.tried(1, 3, 3, 0);
        doors.plant(1, 3);
    }
}
