import java.lang.reflect.Field;
import java.lang.reflect.Method;
import java.lang.reflect.Modifier;
import java.util.Set;
import java.util.TreeSet;

/** "The public face": these members and no others; and the rules of LANGUAGE.md on members that reflection can see. */
public final class FaceTest {
    private static final int MOST_PARAMETERS = 7;
    private static final Due DUE = new Due();
    private static final Set<String> FACE = Set.of("public int word(int)", "public boolean put(int,int)",
        "public int get(int)", "public boolean poke(int,int)", "public int peek(int)", "public boolean go(int)",
        "public int pc()", "public int run(int)", "public int steps()");

    public static void main(String[] args) {
        Class<?> face = WordMachine.class;
        theClass(face);
        methods(face);
        fields(face);
        DUE.end();
    }

    private static void theClass(Class<?> face) {
        DUE.sentence("public final class WordMachine");
        DUE.is("public and final alone", face.getModifiers(), Modifier.PUBLIC | Modifier.FINAL);
        DUE.is("no package", face.getPackageName().isEmpty(), true);
        DUE.is("extends nothing", face.getSuperclass() == Object.class, true);
        DUE.is("implements nothing", face.getInterfaces().length, 0);
        for (Class<?> inside : face.getDeclaredClasses()) {
            int modifiers = inside.getModifiers();
            DUE.is(inside.getName() + " is static", Modifier.isStatic(modifiers), true);
            DUE.is(inside.getName() + " is public or protected",
                Modifier.isPublic(modifiers) || Modifier.isProtected(modifiers), false);
        }
        DUE.sentence("public WordMachine()");
        DUE.is("constructors", face.getDeclaredConstructors().length, 1);
        DUE.is("public constructors without parameters", face.getConstructors().length == 1
            && face.getConstructors()[0].getParameterCount() == 0, true);
    }

    private static void methods(Class<?> face) {
        DUE.sentence("the methods of the public face");
        Set<String> found = new TreeSet<>();
        Set<String> faceNames = new TreeSet<>();
        for (String method : FACE) {
            faceNames.add(method.substring(method.lastIndexOf(' ') + 1, method.indexOf('(')));
        }
        for (Method method : face.getDeclaredMethods()) {
            DUE.is(method.getName() + " takes at most 7", method.getParameterCount() <= MOST_PARAMETERS, true);
            if (Modifier.isPrivate(method.getModifiers())) {
                DUE.is(method.getName() + " is no name of the face", faceNames.contains(method.getName()), false);
            } else {
                found.add(told(method));
            }
        }
        DUE.is("the face " + found, found.equals(FACE), true);
    }

    // toGenericString would do, but it names the class too.
    private static String told(Method method) {
        StringBuilder text = new StringBuilder(Modifier.toString(method.getModifiers()));
        text.append(' ').append(method.getReturnType()).append(' ').append(method.getName()).append('(');
        String comma = "";
        for (Class<?> type : method.getParameterTypes()) {
            text.append(comma).append(type);
            comma = ",";
        }
        text.append(')');
        for (Class<?> thrown : method.getExceptionTypes()) {
            text.append(" throws ").append(thrown.getName());
        }
        return text.toString();
    }

    private static void fields(Class<?> face) {
        DUE.sentence("no other public, protected or package-visible member; static fields are final");
        for (Field field : face.getDeclaredFields()) {
            int modifiers = field.getModifiers();
            DUE.is(field.getName() + " is private", Modifier.isPrivate(modifiers), true);
            DUE.is(field.getName() + " is final if static",
                !Modifier.isStatic(modifiers) || Modifier.isFinal(modifiers), true);
        }
    }
}
