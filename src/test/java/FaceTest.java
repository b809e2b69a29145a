import java.lang.reflect.Constructor;
import java.lang.reflect.Field;
import java.lang.reflect.Method;
import java.lang.reflect.Modifier;
import java.util.Map;
import java.util.TreeMap;

/** The public face is the document's, and nothing else can be seen from outside. */
public final class FaceTest {
    private static final String[] METHODS = {
        "address 1", "change 2", "close 0", "counted 2", "fix 0", "giveBack 2", "giveUp 1",
        "inDistrict 1", "join 2", "leave 1", "merge 1", "move 2", "onRoll 1", "rangeOf 1",
        "ranges 0", "rows 1", "send 1", "sentTo 1", "shardOf 1", "split 1", "stateOf 1", "step 1"};

    public static void main(String[] args) {
        Checks x = new Checks();
        constants(x);
        methods(x);
        x.same("public and final", "true",
                "" + (Modifier.isPublic(ShardBallots.class.getModifiers())
                        && Modifier.isFinal(ShardBallots.class.getModifiers())));
        Constructor<?>[] made = ShardBallots.class.getDeclaredConstructors();
        x.same("constructors", "1", "" + made.length);
        x.same("the constructor's parameters", "0", "" + made[0].getParameterCount());
        x.end("FaceTest");
    }

    private static void constants(Checks x) {
        x.due("NONE", -1, () -> ShardBallots.NONE);
        x.due("SENT", 0, () -> ShardBallots.SENT);
        x.due("REPLACED", 1, () -> ShardBallots.REPLACED);
        x.due("RETURNED", 2, () -> ShardBallots.RETURNED);
        int seen = 0;
        for (Field field : ShardBallots.class.getDeclaredFields()) {
            if (!Modifier.isPrivate(field.getModifiers())) {
                seen++;
            }
            if (Modifier.isStatic(field.getModifiers())) {
                x.same(field.getName() + " is final", "true", "" + Modifier.isFinal(field.getModifiers()));
            }
        }
        x.same("constants to be seen", "4", "" + seen);
    }

    private static void methods(Checks x) {
        Map<String, Integer> names = new TreeMap<>();
        StringBuilder face = new StringBuilder();
        for (Method method : ShardBallots.class.getDeclaredMethods()) {
            if (Modifier.isPrivate(method.getModifiers())) {
                names.merge(method.getName(), 100, Integer::sum);
            } else {
                x.same(method.getName() + " is public", "true", "" + Modifier.isPublic(method.getModifiers()));
                x.same(method.getName() + " answers", "int", method.getReturnType().getName());
                names.merge(method.getName(), method.getParameterCount(), Integer::sum);
            }
        }
        names.forEach((name, count) -> {
            if (count < 100) {
                face.append(name).append(' ').append(count).append(", ");
            } else {
                x.same(name + " is private or public", "0", "" + count % 100);
            }
        });
        x.same("methods", String.join(", ", METHODS) + ", ", face.toString());
    }
}
