import java.lang.reflect.Constructor;
import java.lang.reflect.Field;
import java.lang.reflect.Method;
import java.lang.reflect.Modifier;
import java.util.ArrayList;
import java.util.Arrays;
import java.util.Collections;
import java.util.List;
import java.util.TreeSet;

/** The public face, and what LANGUAGE.md says of it in rules 1, 5 and 11. */
public final class FaceTest {
    private static final Check CHECK = new Check("FaceTest");

    public static void main(String[] args) {
        Class<?> face = ExploreShares.class;
        CHECK.due("the class", "public final", Modifier.toString(face.getModifiers()));
        publicMembers(face);
        privateMembers(face);
        classesInside(face);
        CHECK.end();
    }

    private static void publicMembers(Class<?> face) {
        List<String> got = new ArrayList<>();
        for (Constructor<?> c : face.getDeclaredConstructors()) {
            got.add(Modifier.toString(c.getModifiers()) + " new" + types(c.getParameterTypes()));
        }
        for (Method m : face.getDeclaredMethods()) {
            if (!Modifier.isPrivate(m.getModifiers())) {
                got.add(Modifier.toString(m.getModifiers()) + " " + m.getReturnType() + " " + m.getName()
                        + types(m.getParameterTypes()) + types(m.getExceptionTypes()));
            }
        }
        for (Field f : face.getDeclaredFields()) {
            if (!Modifier.isPrivate(f.getModifiers())) {
                got.add(Modifier.toString(f.getModifiers()) + " " + f.getType() + " " + f.getName());
            }
        }
        String index = "(IndexOutOfBoundsException)";
        List<String> want = new ArrayList<>(List.of("public new(int,int)", "public static final int NONE",
                "public int state()(UnsupportedOperationException)",
                "public int move(int,int)(IllegalArgumentException,UnsupportedOperationException)",
                "public int fail(int,int,int)(IndexOutOfBoundsException,IllegalArgumentException,"
                        + "UnsupportedOperationException)",
                "public int run(int)(IllegalStateException)"));
        Collections.addAll(want, "public int level(int)" + index, "public int owner(int)" + index,
                "public int times(int)" + index, "public int way(int,int)" + index,
                "public int worker(int,int)" + index, "public int failed(int,int)" + index,
                "public int size(int)" + index, "public int count(int)()");
        Collections.sort(got);
        Collections.sort(want);
        CHECK.due("the face", want.toString(), got.toString());
    }

    private static String types(Class<?>[] types) {
        List<String> names = new ArrayList<>();
        for (Class<?> type : types) {
            names.add(type.getSimpleName());
        }
        return "(" + String.join(",", names) + ")";
    }

    private static void privateMembers(Class<?> face) {
        TreeSet<String> names = new TreeSet<>();
        for (Method m : face.getDeclaredMethods()) {
            if (Modifier.isPublic(m.getModifiers())) {
                names.add(m.getName());
            }
        }
        List<Class<?>> all = new ArrayList<>(Arrays.asList(face.getDeclaredClasses()));
        all.add(face);
        for (Class<?> one : all) {
            for (Method m : one.getDeclaredMethods()) {
                boolean taken = !Modifier.isPublic(m.getModifiers()) && names.contains(m.getName());
                CHECK.due(one.getSimpleName() + "." + m.getName() + " has a name of the face", "false", "" + taken);
                CHECK.due(one.getSimpleName() + "." + m.getName() + " has over 7 parameters", "false",
                        "" + (m.getParameterCount() > 7));
            }
            for (Field f : one.getDeclaredFields()) {
                boolean changes = Modifier.isStatic(f.getModifiers()) && !Modifier.isFinal(f.getModifiers());
                CHECK.due(one.getSimpleName() + "." + f.getName() + " is static and not final", "false", "" + changes);
            }
        }
    }

    private static void classesInside(Class<?> face) {
        CHECK.due("over 12 classes", "false", "" + (face.getDeclaredClasses().length + 1 > 12));
        for (Class<?> one : face.getDeclaredClasses()) {
            CHECK.due(one.getSimpleName(), "private static final", Modifier.toString(one.getModifiers()));
        }
    }
}
