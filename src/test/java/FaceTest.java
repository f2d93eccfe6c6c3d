import java.lang.reflect.Constructor;
import java.lang.reflect.Field;
import java.lang.reflect.Method;
import java.lang.reflect.Modifier;
import java.util.ArrayList;
import java.util.Arrays;
import java.util.List;

/** The face of the class is the document's, and nothing else of it is to be seen. */
public final class FaceTest {
    private static final String[] METHODS = {
        "int build(int,int,int,int) throws IndexOutOfBoundsException,IllegalArgumentException",
        "int carry(int,int,int) throws IndexOutOfBoundsException,IllegalArgumentException",
        "int insult(int,int,int) throws IndexOutOfBoundsException,IllegalArgumentException,IllegalStateException",
        "int set(int,int) throws IndexOutOfBoundsException,IllegalArgumentException",
        "int learn(int,int) throws IndexOutOfBoundsException,IllegalArgumentException,IllegalStateException",
        "int send(int,int) throws IndexOutOfBoundsException,IllegalArgumentException,IllegalStateException",
        "int forget(int) throws IndexOutOfBoundsException",
        "int append(int) throws IllegalArgumentException,IllegalStateException",
        "int clearBuffer()",
        "int firstError()",
        "int say() throws IllegalArgumentException,IllegalStateException",
        "int undo() throws IllegalStateException",
        "int street(int,int,int) throws IndexOutOfBoundsException,IllegalArgumentException",
        "int accent(int,int,int) throws IndexOutOfBoundsException,IllegalArgumentException",
        "int waits(int,int) throws IndexOutOfBoundsException",
        "long had(int) throws IndexOutOfBoundsException",
        "int count(int) throws IllegalArgumentException",
        "int setting(int) throws IndexOutOfBoundsException",
        "int sure(int,int) throws IndexOutOfBoundsException",
        "int ifSent(int,int,int) throws IndexOutOfBoundsException,IllegalArgumentException",
        "int ifLearned(int,int) throws IndexOutOfBoundsException,IllegalArgumentException",
        "int beatsFor(int) throws IndexOutOfBoundsException",
        "int bestLesson(int) throws IndexOutOfBoundsException",
        "int hurts(int,int) throws IndexOutOfBoundsException",
        "double rightShare(int) throws IndexOutOfBoundsException",
        "long digest()"};

    public static void main(String[] args) {
        Check check = new Check();
        Class<?> c = AccentModems.class;
        check.due("public and final", c.getModifiers(), Modifier.PUBLIC | Modifier.FINAL);
        check.due("NONE", AccentModems.NONE, -1);
        List<String> wanted = new ArrayList<>(Arrays.asList(METHODS));
        List<String> hidden = new ArrayList<>();
        for (Method m : c.getDeclaredMethods()) {
            if (Modifier.isPrivate(m.getModifiers())) {
                hidden.add(m.getName());
                continue;
            }
            check.due(m + " is the document's", wanted.remove(faceOf(m)) ? 1 : 0, 1);
            check.due(m + " is public alone", m.getModifiers(), Modifier.PUBLIC);
        }
        for (String missing : wanted) {
            check.complain("there is no " + missing);
        }
        for (String name : hidden) {
            check.due("a private " + name, Arrays.stream(METHODS).anyMatch(m -> m.contains(" " + name + "(")) ? 1 : 0, 0);
        }
        lookAtConstructors(check, c);
        lookAtFields(check, c);
        check.end();
    }

    private static void lookAtConstructors(Check check, Class<?> c) {
        Constructor<?>[] all = c.getDeclaredConstructors();
        check.due("constructors", all.length, 1);
        check.due("the constructor's parameters", all[0].getParameterCount(), 0);
        check.due("the constructor is public", all[0].getModifiers(), Modifier.PUBLIC);
    }

    private static void lookAtFields(Check check, Class<?> c) {
        for (Field f : c.getDeclaredFields()) {
            boolean isNone = f.getName().equals("NONE");
            int modifiers = f.getModifiers();
            check.due(f + " is hidden", Modifier.isPrivate(modifiers) ? 0 : 1, isNone ? 1 : 0);
            check.due(f + " is no changing static", Modifier.isStatic(modifiers) && !Modifier.isFinal(modifiers) ? 1 : 0, 0);
            if (isNone) {
                check.due("NONE", modifiers, Modifier.PUBLIC | Modifier.STATIC | Modifier.FINAL);
                check.due("NONE is an int", f.getType() == int.class ? 1 : 0, 1);
            }
        }
    }

    private static String faceOf(Method m) {
        StringBuilder face = new StringBuilder(m.getReturnType().getSimpleName()).append(' ').append(m.getName());
        face.append('(').append(namesOf(m.getParameterTypes())).append(')');
        if (m.getExceptionTypes().length > 0) {
            face.append(" throws ").append(namesOf(m.getExceptionTypes()));
        }
        return face.toString();
    }

    private static String namesOf(Class<?>[] types) {
        List<String> names = new ArrayList<>();
        for (Class<?> type : types) {
            names.add(type.getSimpleName());
        }
        return String.join(",", names);
    }
}
