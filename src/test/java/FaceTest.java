import java.lang.reflect.Constructor;
import java.lang.reflect.Executable;
import java.lang.reflect.Field;
import java.lang.reflect.Method;
import java.lang.reflect.Modifier;
import java.util.Set;
import java.util.TreeSet;

/** The public face is the document's and no more; no private method bears the name of a public one. */
public final class FaceTest {
    private static final Set<String> FACE = Set.of(
            "ActorMachine()",
            "int type(int,long) IllegalStateException IllegalArgumentException",
            "int clear(int) IllegalArgumentException",
            "int check(int) IllegalArgumentException UnsupportedOperationException",
            "int fault(int) IllegalArgumentException",
            "int spawn(int,int) IllegalStateException IllegalArgumentException",
            "int send(int,int,int,int) IllegalStateException IllegalArgumentException",
            "int deliver(int,int) IllegalStateException IllegalArgumentException NoSuchElementException",
            "int step(int) IllegalStateException IllegalArgumentException NoSuchElementException"
                    + " ArithmeticException UnsupportedOperationException",
            "int kill(int) IllegalStateException IllegalArgumentException",
            "int reap(int) IllegalStateException IllegalArgumentException",
            "int leaf(int,int,int) IllegalArgumentException",
            "int shape(int,int) IllegalArgumentException",
            "int about(int,int) IllegalArgumentException",
            "int FREE", "int ALIVE", "int ENDED", "int NONE");

    public static void main(String[] args) {
        Due due = new Due("the face");
        Class<?> type = ActorMachine.class;
        Set<String> found = new TreeSet<>();
        Set<String> publicNames = new TreeSet<>();
        Set<String> privateNames = new TreeSet<>();
        for (Constructor<?> constructor : type.getDeclaredConstructors()) {
            found.add("ActorMachine" + tail(constructor));
        }
        for (Method method : type.getDeclaredMethods()) {
            if (Modifier.isPrivate(method.getModifiers())) {
                privateNames.add(method.getName());
                continue;
            }
            due.isTrue(method + " is public and of the object",
                    Modifier.isPublic(method.getModifiers()) && !Modifier.isStatic(method.getModifiers()));
            publicNames.add(method.getName());
            found.add(method.getReturnType() + " " + method.getName() + tail(method));
        }
        for (Field field : type.getDeclaredFields()) {
            if (!Modifier.isPrivate(field.getModifiers())) {
                due.isTrue(field + " is a constant", field.toString().startsWith("public static final int"));
                found.add(field.getType() + " " + field.getName());
            }
        }
        for (Class<?> inside : type.getDeclaredClasses()) {
            due.isTrue(inside + " is private and static",
                    Modifier.isPrivate(inside.getModifiers()) && Modifier.isStatic(inside.getModifiers()));
            for (Method method : inside.getDeclaredMethods()) {
                privateNames.add(method.getName());
            }
        }
        privateNames.retainAll(publicNames);
        due.isTrue("no name of a public method is used again: " + privateNames, privateNames.isEmpty());
        due.isTrue("the class is public and final",
                Modifier.isPublic(type.getModifiers()) && Modifier.isFinal(type.getModifiers()));
        due.isTrue("the face is the document's: " + found, found.equals(FACE));
        due.close();
    }

    private static String tail(Executable call) {
        StringBuilder text = new StringBuilder("(");
        for (Class<?> parameter : call.getParameterTypes()) {
            text.append(text.length() > 1 ? "," : "").append(parameter);
        }
        text.append(')');
        for (Class<?> exception : call.getExceptionTypes()) {
            text.append(' ').append(exception.getSimpleName());
        }
        return text.toString();
    }
}
