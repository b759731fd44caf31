import java.lang.reflect.Constructor;
import java.lang.reflect.Field;
import java.lang.reflect.Member;
import java.lang.reflect.Method;
import java.lang.reflect.Modifier;
import java.util.ArrayList;
import java.util.HashSet;
import java.util.List;
import java.util.Set;
import java.util.TreeSet;

/** The public face is the document's, and the class keeps to what LANGUAGE.md says of members and sizes. */
public final class FaceTest {
    private static final String[] FACE = {"add/0", "cut/1", "swap/2", "mend/1", "crank/2", "route/1", "drive/1",
        "stop/0", "set/2", "rowOf/2", "letter/2", "routeOf/2", "would/3", "nearest/1", "alike/2", "read/1", "find/0",
        "mean/0", "count/1", "undo/0", "type/1", "clearText/0", "fault/1"};

    private static int wrong = 0;

    private static void due(String what, Object got, Object want) {
        if (!got.equals(want)) {
            wrong++;
            System.out.println(what + ": " + got + ", due is " + want);
        }
    }

    public static void main(String[] arguments) {
        Class<?> face = HandBlinds.class;
        due("public and final", Modifier.toString(face.getModifiers()), "public final");
        constants(face);
        constructors(face);
        methods(face);
        inside(face);
        System.out.println(wrong == 0 ? "the face is as due" : wrong + " things of the face are not as due");
        if (wrong != 0) {
            System.exit(1);
        }
    }

    private static void constants(Class<?> face) {
        Set<String> open = new TreeSet<>();
        for (Field field : face.getDeclaredFields()) {
            if (!Modifier.isPrivate(field.getModifiers())) {
                due(field.getName(), Modifier.toString(field.getModifiers()), "public static final");
                open.add(field.getName());
            }
            noOpenState(field);
        }
        due("constants", open, new TreeSet<>(List.of("INVALID_ARGUMENT", "NOT_POSSIBLE", "LIMIT_REACHED", "NOT_FOUND")));
        due("INVALID_ARGUMENT", HandBlinds.INVALID_ARGUMENT, -1000001);
        due("NOT_POSSIBLE", HandBlinds.NOT_POSSIBLE, -1000002);
        due("LIMIT_REACHED", HandBlinds.LIMIT_REACHED, -1000003);
        due("NOT_FOUND", HandBlinds.NOT_FOUND, -1000004);
    }

    private static void noOpenState(Field field) {
        if (Modifier.isStatic(field.getModifiers())) {
            due("static " + field.getName() + " is final", Modifier.isFinal(field.getModifiers()), true);
        }
    }

    private static void constructors(Class<?> face) {
        Constructor<?>[] all = face.getDeclaredConstructors();
        due("constructors", all.length, 1);
        due("constructor's arguments", all[0].getParameterCount(), 0);
        due("constructor is public", Modifier.isPublic(all[0].getModifiers()), true);
    }

    private static void methods(Class<?> face) {
        Set<String> open = new TreeSet<>();
        Set<String> names = new HashSet<>();
        List<Method> closed = new ArrayList<>();
        for (Method method : face.getDeclaredMethods()) {
            if (Modifier.isPrivate(method.getModifiers())) {
                closed.add(method);
            } else {
                open.add(method.getName() + "/" + method.getParameterCount());
                names.add(method.getName());
                due(method.getName(), Modifier.toString(method.getModifiers()), "public");
                due(method.getName() + "'s answer", method.getReturnType(), int.class);
            }
        }
        due("methods", open, new TreeSet<>(List.of(FACE)));
        for (Method method : closed) {
            due("private " + method.getName() + " bears a public name", names.contains(method.getName()), false);
        }
    }

    private static void inside(Class<?> face) {
        Class<?>[] classes = face.getDeclaredClasses();
        due("at most twelve classes", classes.length < 12, true);
        for (Class<?> one : classes) {
            due(one.getName() + " is static", Modifier.isStatic(one.getModifiers()), true);
            due(one.getName() + " is open", Modifier.isPublic(one.getModifiers()), false);
            int own = 0;
            for (Field field : one.getDeclaredFields()) {
                noOpenState(field);
                own += isOfObjects(field) ? 1 : 0;
            }
            due(one.getName() + " has at most twenty fields", own <= 20, true);
            for (Method method : one.getDeclaredMethods()) {
                due(method.getName() + " has at most seven parameters", method.getParameterCount() <= 7, true);
            }
        }
    }

    private static boolean isOfObjects(Member member) {
        return !Modifier.isStatic(member.getModifiers());
    }
}
