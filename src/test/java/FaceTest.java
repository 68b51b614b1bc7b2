import java.lang.reflect.Constructor;
import java.lang.reflect.Field;
import java.lang.reflect.Method;
import java.lang.reflect.Modifier;
import java.util.Set;
import java.util.TreeSet;

/** The public face: the document's constants, constructor and methods, and no other visible member. */
public final class FaceTest extends SessionChecks {
    private static final Set<String> DUE = Set.of(
            "public static final int DONE",
            "public static final int REFUSED",
            "public static final int FULL",
            "public static final int NONE",
            "public static final int CLOSED",
            "public static final int BROKEN",
            "public static final long ABSENT",
            "public BlockTargetSession(int, int)",
            "public int write(int, int, int)",
            "public int read(int, int)",
            "public int sync()",
            "public int send()",
            "public int deliver(boolean)",
            "public int damage(boolean, int)",
            "public int drop()",
            "public int crash()",
            "public int login()",
            "public int flush()",
            "public int state(int)",
            "public long result(int, int)",
            "public long present(int)",
            "public long disk(int)",
            "public int cached(int)",
            "public int message(boolean, int, int)",
            "public int waiting(boolean)",
            "public int count(int)");

    public static void main(String[] args) {
        at("The public face");
        Class<?> face = BlockTargetSession.class;
        due("public and final", face.getModifiers() & (Modifier.PUBLIC | Modifier.FINAL),
                Modifier.PUBLIC | Modifier.FINAL);
        Set<String> seen = visibleMembers(face);
        for (String member : DUE) {
            due("has " + member, seen.contains(member) ? 1 : 0, 1);
        }
        for (String member : seen) {
            due("may have " + member, DUE.contains(member) ? 1 : 0, 1);
        }
        checkPrivateNames(face);
        checkConstants();
        end("FaceTest");
    }

    private static Set<String> visibleMembers(Class<?> face) {
        Set<String> seen = new TreeSet<>();
        for (Field field : face.getDeclaredFields()) {
            if (!Modifier.isPrivate(field.getModifiers())) {
                seen.add(Modifier.toString(field.getModifiers()) + " " + field.getType() + " " + field.getName());
            }
        }
        for (Method method : face.getDeclaredMethods()) {
            if (!Modifier.isPrivate(method.getModifiers())) {
                seen.add(Modifier.toString(method.getModifiers()) + " " + method.getReturnType() + " "
                        + method.getName() + parameters(method.getParameterTypes()));
            }
        }
        for (Constructor<?> constructor : face.getDeclaredConstructors()) {
            if (!Modifier.isPrivate(constructor.getModifiers())) {
                seen.add(Modifier.toString(constructor.getModifiers()) + " " + face.getName()
                        + parameters(constructor.getParameterTypes()));
            }
        }
        return seen;
    }

    private static String parameters(Class<?>[] types) {
        StringBuilder told = new StringBuilder("(");
        for (int i = 0; i < types.length; i++) {
            told.append(i == 0 ? "" : ", ").append(types[i]);
        }
        return told.append(")").toString();
    }

    private static void checkPrivateNames(Class<?> face) {
        Set<String> publicNames = new TreeSet<>();
        for (Method method : face.getDeclaredMethods()) {
            if (Modifier.isPublic(method.getModifiers())) {
                publicNames.add(method.getName());
            }
        }
        for (Method method : face.getDeclaredMethods()) {
            if (Modifier.isPrivate(method.getModifiers())) {
                due("private name " + method.getName() + " is no public one",
                        publicNames.contains(method.getName()) ? 1 : 0, 0);
            }
        }
    }

    private static void checkConstants() {
        at("The constants");
        due("DONE", BlockTargetSession.DONE, 0);
        due("REFUSED", BlockTargetSession.REFUSED, -1);
        due("FULL", BlockTargetSession.FULL, -2);
        due("NONE", BlockTargetSession.NONE, -3);
        due("CLOSED", BlockTargetSession.CLOSED, -4);
        due("BROKEN", BlockTargetSession.BROKEN, -5);
        due("ABSENT", BlockTargetSession.ABSENT, -1000000000000L);
    }
}
