import java.lang.reflect.Constructor;
import java.lang.reflect.Field;
import java.lang.reflect.Method;
import java.lang.reflect.Modifier;
import java.util.Arrays;
import java.util.Set;
import java.util.TreeSet;

/** The public face: every constant, the constructor, every method, and nothing beside them. */
public final class FaceTest {
    private static final Check CHECK = new Check("FaceTest");

    private static final Set<String> METHODS = new TreeSet<>(Arrays.asList(
        "int verify(int)", "int change(int,int)", "int unblock(int,int)", "boolean arm(int,int)",
        "boolean cut()", "boolean start()", "boolean in()", "boolean up()", "int tries()",
        "int puks()", "int page()", "int generation()", "int free()", "int operations()",
        "int erased(int)"));

    private static final Set<String> CONSTANTS =
        new TreeSet<>(Arrays.asList("DOWN", "LOCKED", "LOST", "WRONG", "RIGHT"));

    public static void main(String[] args) {
        theConstants();
        theClass();
        theMembers();
        CHECK.end();
    }

    private static void theConstants() {
        CHECK.due("DOWN", TornTryCounter.DOWN, -1);
        CHECK.due("LOCKED", TornTryCounter.LOCKED, -2);
        CHECK.due("LOST", TornTryCounter.LOST, -3);
        CHECK.due("WRONG", TornTryCounter.WRONG, 0);
        CHECK.due("RIGHT", TornTryCounter.RIGHT, 1);
    }

    private static void theClass() {
        int modifiers = TornTryCounter.class.getModifiers();
        CHECK.due("public", Modifier.isPublic(modifiers), true);
        CHECK.due("final", Modifier.isFinal(modifiers), true);
        Constructor<?>[] constructors = TornTryCounter.class.getDeclaredConstructors();
        CHECK.due("number of constructors", constructors.length, 1);
        CHECK.due("public constructor", Modifier.isPublic(constructors[0].getModifiers()), true);
        CHECK.due("constructor's parameters", Arrays.equals(constructors[0].getParameterTypes(),
            new Class<?>[] {int.class, int.class, int.class, int.class}), true);
    }

    private static void theMembers() {
        Set<String> methods = new TreeSet<>();
        for (Method method : TornTryCounter.class.getDeclaredMethods()) {
            if (method.isSynthetic() || Modifier.isPrivate(method.getModifiers())) {
                continue;
            }
            String parameters = Arrays.toString(method.getParameterTypes());
            parameters = parameters.substring(1, parameters.length() - 1).replace(" ", "");
            methods.add(method.getReturnType() + " " + method.getName() + "(" + parameters + ")");
            int wanted = Modifier.PUBLIC;
            CHECK.due("modifiers of " + method.getName(), method.getModifiers(), wanted);
        }
        CHECK.due("methods " + methods + ": all of the document's and no other",
            methods.equals(METHODS), true);
        Set<String> constants = new TreeSet<>();
        for (Field field : TornTryCounter.class.getDeclaredFields()) {
            if (field.isSynthetic() || Modifier.isPrivate(field.getModifiers())) {
                continue;
            }
            constants.add(field.getName());
            int wanted = Modifier.PUBLIC | Modifier.STATIC | Modifier.FINAL;
            CHECK.due("modifiers of " + field.getName(), field.getModifiers(), wanted);
            CHECK.due(field.getName() + " is an int", field.getType() == int.class, true);
        }
        CHECK.due("constants " + constants + ": all of the document's and no other",
            constants.equals(CONSTANTS), true);
    }
}
