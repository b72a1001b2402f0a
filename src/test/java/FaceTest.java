import java.lang.reflect.Field;
import java.lang.reflect.Method;
import java.lang.reflect.Modifier;
import java.util.Set;
import java.util.TreeSet;

/** The public face, and the rules of LANGUAGE.md on members that reflection can see. */
public final class FaceTest {
    private static final Due DUE = new Due();
    private static final Set<String> FACE = Set.of("int word(int)", "boolean put(int,int)", "int get(int)",
        "boolean poke(int,int)", "int peek(int)", "boolean go(int)", "int pc()", "int run(int)", "int steps()");

    public static void main(String[] args) {
        Class<?> face = WordMachine.class;
        DUE.is("public", Modifier.isPublic(face.getModifiers()), true);
        DUE.is("final", Modifier.isFinal(face.getModifiers()), true);
        DUE.is("constructors", face.getDeclaredConstructors().length, 1);
        DUE.is("public constructors without parameters", face.getConstructors().length == 1
            && face.getConstructors()[0].getParameterCount() == 0, true);
        methods(face);
        for (Field field : face.getDeclaredFields()) {
            int modifiers = field.getModifiers();
            DUE.is(field.getName() + " is private", Modifier.isPrivate(modifiers), true);
            DUE.is(field.getName() + " is final if static",
                !Modifier.isStatic(modifiers) || Modifier.isFinal(modifiers), true);
        }
        DUE.end();
    }

    private static void methods(Class<?> face) {
        Set<String> found = new TreeSet<>();
        Set<String> faceNames = new TreeSet<>();
        for (String method : FACE) {
            faceNames.add(method.substring(method.indexOf(' ') + 1, method.indexOf('(')));
        }
        for (Method method : face.getDeclaredMethods()) {
            if (Modifier.isPrivate(method.getModifiers())) {
                DUE.is(method.getName() + " is no name of the face", faceNames.contains(method.getName()), false);
            } else {
                found.add(told(method));
            }
        }
        DUE.is("the face " + found, found.equals(FACE), true);
    }

    private static String told(Method method) {
        StringBuilder text = new StringBuilder();
        text.append(method.getReturnType()).append(' ').append(method.getName()).append('(');
        String comma = "";
        for (Class<?> type : method.getParameterTypes()) {
            text.append(comma).append(type);
            comma = ",";
        }
        return text.append(')').toString();
    }
}
