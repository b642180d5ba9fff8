import java.lang.reflect.Constructor;
import java.lang.reflect.Field;
import java.lang.reflect.Method;
import java.lang.reflect.Modifier;
import java.nio.file.Files;
import java.nio.file.Path;
import java.util.Set;
import java.util.TreeSet;

/** The public face is just the document's, and the source keeps to what can be seen of LANGUAGE.md. */
final class FaceTest {
    private static final String INDEX = "IndexOutOfBoundsException";
    private static final String ARGUMENT = "IllegalArgumentException";
    private static final String STATE = "IllegalStateException";
    private static final String UNSUPPORTED = "UnsupportedOperationException";
    private static final String ELEMENT = "NoSuchElementException";

    private static final Set<String> FACE = new TreeSet<>();

    public static void main(String[] args) throws Exception {
        listFace();
        methods();
        otherMembers();
        names();
        sizes();
        source();
        Check.end();
    }

    private static void face(String signature, String... exceptions) {
        FACE.add(signature + " throws " + String.join(", ", exceptions));
    }

    private static void listFace() {
        face("int addPattern(int)", ARGUMENT, STATE);
        face("int setRow(int, int, int, int, int)", INDEX, ARGUMENT);
        face("int compile(int)", INDEX, STATE);
        face("int cardOf(int, int)", INDEX, ELEMENT);
        face("int cards()");
        face("int readsAs(int)", INDEX);
        face("int wear(int)", INDEX);
        face("int slip(int, int)", INDEX, ARGUMENT);
        face("int punch(int)", INDEX);
        face("int shared(int, int)", INDEX);
        face("int addCone(int, int, int)", ARGUMENT, STATE);
        face("int stock(int)", ARGUMENT);
        face("int threads(int)", ARGUMENT);
        face("int wearOfThread(int, int)", ARGUMENT, INDEX);
        face("int lotOfThread(int, int)", ARGUMENT, INDEX);
        face("int thrownAway(int)", ARGUMENT);
        face("int knots()");
        face("int addOrder(int, int)", INDEX, ARGUMENT, STATE);
        face("char stateOf(int)", INDEX);
        face("boolean begin(int)", INDEX, UNSUPPORTED, STATE);
        face("int weave(int)", ARGUMENT, STATE);
        face("int woven()");
        face("int hooksOf(int)", INDEX);
        face("int colourOf(int)", INDEX);
        face("char hookAt(int, int)", INDEX, ARGUMENT);
        face("int lots()");
        face("int rightRows(int)", INDEX);
        face("int look(int)", ARGUMENT, STATE);
        face("int unweave(int)", INDEX);
        face("int recover()", STATE);
        face("char cut()", STATE, UNSUPPORTED);
        face("int entries()");
        face("int unwoven()");
        face("int type(char)", ARGUMENT, STATE);
        face("boolean doWord()");
        face("float rightShare()", STATE, ELEMENT);
        face("double meanWear()", ELEMENT);
        face("boolean isSound()");
    }

    private static String signatureOf(Method method) {
        StringBuilder text = new StringBuilder();
        text.append(method.getReturnType().getSimpleName()).append(' ').append(method.getName()).append('(');
        for (int i = 0; i < method.getParameterCount(); i++) {
            text.append(i == 0 ? "" : ", ").append(method.getParameterTypes()[i].getSimpleName());
        }
        text.append(") throws ");
        for (int i = 0; i < method.getExceptionTypes().length; i++) {
            text.append(i == 0 ? "" : ", ").append(method.getExceptionTypes()[i].getSimpleName());
        }
        return text.toString();
    }

    private static void methods() {
        Set<String> found = new TreeSet<>();
        for (Method method : JacquardDeck.class.getDeclaredMethods()) {
            int modifiers = method.getModifiers();
            if (Modifier.isPublic(modifiers)) {
                found.add(signatureOf(method));
            } else if (!Modifier.isPrivate(modifiers)) {
                Check.tell(method + " is neither public nor private");
            }
            if (Modifier.isPublic(modifiers) && Modifier.isStatic(modifiers)) {
                Check.tell(method + " is static");
            }
        }
        for (String signature : FACE) {
            Check.due("face has " + signature, found.contains(signature), true);
        }
        for (String signature : found) {
            Check.due("document has " + signature, FACE.contains(signature), true);
        }
    }

    private static void otherMembers() {
        Check.due("final", Modifier.isFinal(JacquardDeck.class.getModifiers()), true);
        Constructor<?>[] constructors = JacquardDeck.class.getDeclaredConstructors();
        Check.due("one constructor", constructors.length, 1);
        Check.due("without parameters", constructors[0].getParameterCount(), 0);
        Check.due("public", Modifier.isPublic(constructors[0].getModifiers()), true);
        for (Field field : JacquardDeck.class.getDeclaredFields()) {
            Check.due("private: " + field, Modifier.isPrivate(field.getModifiers()), true);
        }
        Check.due("at most twelve classes", JacquardDeck.class.getDeclaredClasses().length < 12, true);
    }

    private static void names() {
        Set<String> publicNames = new TreeSet<>();
        for (Method method : JacquardDeck.class.getMethods()) {
            publicNames.add(method.getName());
        }
        for (Method method : JacquardDeck.class.getDeclaredMethods()) {
            if (!Modifier.isPublic(method.getModifiers())) {
                Check.due("a name of the face: " + method, publicNames.contains(method.getName()), false);
            }
        }
        for (Class<?> inside : JacquardDeck.class.getDeclaredClasses()) {
            Check.due("private and static: " + inside,
                    Modifier.isPrivate(inside.getModifiers()) && Modifier.isStatic(inside.getModifiers()), true);
            for (Method method : inside.getDeclaredMethods()) {
                Check.due("a name of the face: " + method, publicNames.contains(method.getName()), false);
            }
        }
    }

    /** What a rule bounds: the parameters of a method, the fields of a class; and no static state. */
    private static void sizes() {
        sizesOf(JacquardDeck.class);
        for (Class<?> inside : JacquardDeck.class.getDeclaredClasses()) {
            sizesOf(inside);
        }
    }

    private static void sizesOf(Class<?> one) {
        int fields = 0;
        for (Field field : one.getDeclaredFields()) {
            boolean isStatic = Modifier.isStatic(field.getModifiers());
            Check.due("a static field is final: " + field, isStatic && !Modifier.isFinal(field.getModifiers()), false);
            Check.due("a static field is a number: " + field, isStatic && !field.getType().isPrimitive(), false);
            fields += isStatic ? 0 : 1;
        }
        Check.due("at most twenty fields: " + one, fields <= 20, true);
        for (Method method : one.getDeclaredMethods()) {
            Check.due("at most seven parameters: " + method, method.getParameterCount() <= 7, true);
        }
        for (Constructor<?> constructor : one.getDeclaredConstructors()) {
            Check.due("at most seven parameters: " + constructor, constructor.getParameterCount() <= 7, true);
        }
    }

    private static void source() throws Exception {
        String text = Files.readString(Path.of("src/main/java/JacquardDeck.java"));
        for (int i = 0; i < text.length(); i++) {
            if (text.charAt(i) > 126) {
                Check.tell("a sign that is not ASCII at " + i);
            }
        }
        for (String ruledOut : new String[] {"->", "::", "catch", "finally", "synchronized", "assert ", "try {",
                "package ", "Exact(", "Random", "System.currentTime", "System.nanoTime", "Thread."}) {
            Check.due("source holds " + ruledOut, text.contains(ruledOut), false);
        }
        for (String line : text.split("\n")) {
            if (line.startsWith("import ")) {
                Check.due("imported: " + line, line.equals("import java.util.Arrays;")
                        || line.equals("import java.util.NoSuchElementException;"), true);
            }
        }
    }
}
