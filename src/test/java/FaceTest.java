import java.lang.reflect.Constructor;
import java.lang.reflect.Field;
import java.lang.reflect.Method;
import java.lang.reflect.Modifier;
import java.util.HashSet;
import java.util.Set;
import java.util.TreeSet;

/** The public face is the document's, and nothing else can be seen from outside. */
public final class FaceTest {
    // The name, how many parameters, and the throws clause: I IndexOutOfBoundsException,
    // A IllegalArgumentException, S IllegalStateException.
    private static final String[] METHODS = {
        "address 1 I", "change 2 IAS", "close 0 S", "counted 2 IA", "fix 0 S", "giveBack 2 IAS", "giveUp 1 IS",
        "inDistrict 1 I", "join 2 IAS", "leave 1 IS", "merge 1 IS", "move 2 IS", "onRoll 1 I", "rangeOf 1 I",
        "ranges 0 ", "rows 1 I", "send 1 IS", "sentTo 1 I", "shardOf 1 I", "split 1 IS", "stateOf 1 I", "step 1 IS"};

    public static void main(String[] args) {
        Checks x = new Checks();
        constants(x);
        methods(x);
        x.same("public and final", "true",
                "" + (Modifier.isPublic(ShardBallots.class.getModifiers())
                        && Modifier.isFinal(ShardBallots.class.getModifiers())));
        Constructor<?>[] made = ShardBallots.class.getDeclaredConstructors();
        x.same("constructors", "1", "" + made.length);
        x.same("the constructor's parameters", "0", "" + made[0].getParameterCount());
        x.end("FaceTest");
    }

    private static void constants(Checks x) {
        x.due("NONE", -1, () -> ShardBallots.NONE);
        x.due("SENT", 0, () -> ShardBallots.SENT);
        x.due("REPLACED", 1, () -> ShardBallots.REPLACED);
        x.due("RETURNED", 2, () -> ShardBallots.RETURNED);
        int seen = 0;
        for (Field field : ShardBallots.class.getDeclaredFields()) {
            if (!Modifier.isPrivate(field.getModifiers())) {
                seen++;
            }
            if (Modifier.isStatic(field.getModifiers())) {
                x.same(field.getName() + " is final", "true", "" + Modifier.isFinal(field.getModifiers()));
            }
        }
        x.same("constants to be seen", "4", "" + seen);
    }

    private static void methods(Checks x) {
        Set<String> faces = new TreeSet<>();
        Set<String> names = new HashSet<>();
        for (Method method : ShardBallots.class.getDeclaredMethods()) {
            if (!Modifier.isPrivate(method.getModifiers())) {
                x.same(method.getName() + " is public", "true", "" + Modifier.isPublic(method.getModifiers()));
                x.same(method.getName() + " is static", "false", "" + Modifier.isStatic(method.getModifiers()));
                x.same(method.getName() + " answers", "int", method.getReturnType().getName());
                faces.add(face(x, method));
                names.add(method.getName());
            }
        }
        x.same("methods", String.join(", ", METHODS), String.join(", ", faces));
        for (Method method : ShardBallots.class.getDeclaredMethods()) {
            if (Modifier.isPrivate(method.getModifiers())) {
                x.same("private and public: " + method.getName(), "false", "" + names.contains(method.getName()));
            }
        }
    }

    private static String face(Checks x, Method method) {
        for (Class<?> parameter : method.getParameterTypes()) {
            x.same("a parameter of " + method.getName(), "int", parameter.getName());
        }
        StringBuilder thrown = new StringBuilder();
        for (Class<?> exception : method.getExceptionTypes()) {
            thrown.append(exception == IndexOutOfBoundsException.class ? 'I'
                    : exception == IllegalArgumentException.class ? 'A'
                    : exception == IllegalStateException.class ? 'S' : '?');
        }
        return method.getName() + " " + method.getParameterCount() + " " + thrown;
    }
}
