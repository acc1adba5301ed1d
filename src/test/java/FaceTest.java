import java.lang.reflect.Constructor;
import java.lang.reflect.Field;
import java.lang.reflect.Method;
import java.lang.reflect.Modifier;
import java.util.Arrays;
import java.util.TreeSet;

/** The face of the document, and nothing else that is not private. */
public final class FaceTest {
    private static final Due T = new Due();
    private static final String[] METHODS = {"set(int,int)", "start(int,int)", "place(int)", "line(int)",
        "steer(int,int)", "leg(int,int,int)", "pass(int)", "damp(int)", "correct(int,int)", "forgetSwings()",
        "observe(int)", "guess(int)", "compass(int)", "turn(int,int)", "check(int)", "reason()", "state(int)",
        "wave(int,int)", "restAt(int,int,int)", "calmIn(int,int)", "bestLevel(int,int)", "put(long)", "wipe()",
        "fault()", "load()", "undo()", "save(int)", "restore(int)"};
    private static final Object[][] CONSTANTS = {{"NO_SUCH", -1}, {"BAD_VALUE", -2}, {"BAD_TEXT", -3},
        {"TOO_MANY", -4}, {"NOT_POSSIBLE", -5}, {"NONE", -6}, {"GONE", 1000000000}, {"GAIN", 0}, {"RATE", 1},
        {"LATE", 2}, {"SWING", 3}, {"AGREE", 4}, {"TOLERANCE", 5}, {"NOISE", 6}, {"SEED", 7}, {"WAIT", 8}};

    public static void main(String[] args) throws ReflectiveOperationException {
        methods();
        constants();
        Constructor<?>[] constructors = GyroTrainer.class.getDeclaredConstructors();
        T.due("constructors", constructors.length, 1);
        T.due("it is public", constructors[0].getModifiers() & Modifier.PUBLIC, Modifier.PUBLIC);
        T.due("it takes nothing", constructors[0].getParameterCount(), 0);
        T.due("it tells of no exception", constructors[0].getExceptionTypes().length, 0);
        T.due("interfaces", GyroTrainer.class.getInterfaces().length, 0);
        T.due("the class is public and final", GyroTrainer.class.getModifiers(), Modifier.PUBLIC | Modifier.FINAL);
        T.end();
    }

    private static void methods() {
        TreeSet<String> due = new TreeSet<>(Arrays.asList(METHODS));
        TreeSet<String> names = new TreeSet<>();
        for (String method : METHODS) {
            names.add(method.substring(0, method.indexOf('(')));
        }
        for (Method method : GyroTrainer.class.getDeclaredMethods()) {
            String told = method.getName() + Arrays.toString(method.getParameterTypes())
                .replace("[", "(").replace("]", ")").replace(" ", "");
            if (Modifier.isPrivate(method.getModifiers())) {
                T.due("a private method with a public name: " + told, names.contains(method.getName()) ? 1 : 0, 0);
            } else {
                T.due("in the document: " + told, due.remove(told) ? 1 : 0, 1);
                T.due("public: " + told, method.getModifiers(), Modifier.PUBLIC);
                T.due("tells of no exception: " + told, method.getExceptionTypes().length, 0);
                T.due("answers an int: " + told, method.getReturnType() == int.class ? 1 : 0, 1);
            }
        }
        T.due("missing methods " + due, due.size(), 0);
    }

    private static void constants() throws ReflectiveOperationException {
        int open = 0;
        for (Field field : GyroTrainer.class.getDeclaredFields()) {
            open += Modifier.isPrivate(field.getModifiers()) ? 0 : 1;
        }
        T.due("fields that are not private", open, CONSTANTS.length);
        for (Object[] constant : CONSTANTS) {
            Field field = GyroTrainer.class.getDeclaredField((String) constant[0]);
            T.due("modifiers of " + constant[0], field.getModifiers(),
                Modifier.PUBLIC | Modifier.STATIC | Modifier.FINAL);
            T.due("type of " + constant[0], field.getType() == int.class ? 1 : 0, 1);
            T.due((String) constant[0], field.getInt(null), (Integer) constant[1]);
        }
    }
}
