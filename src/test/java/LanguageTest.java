import java.io.IOException;
import java.lang.reflect.Field;
import java.lang.reflect.Method;
import java.lang.reflect.Modifier;
import java.nio.file.Files;
import java.nio.file.Path;
import java.util.ArrayDeque;
import java.util.ArrayList;
import java.util.Deque;
import java.util.HashMap;
import java.util.List;
import java.util.Map;
import java.util.Set;
import java.util.regex.Matcher;
import java.util.regex.Pattern;

/** The rules of LANGUAGE.md that a program can hold against the class; it runs where src/main/java is. */
public final class LanguageTest {
    private static final Due T = new Due();
    private static final Path SOURCE = Path.of("src/main/java/GyroTrainer.java");
    private static final Set<String> LIBRARY = Set.of("java/lang/Object.<init>", "java/lang/Math.abs",
        "java/lang/Math.max", "java/lang/Math.min", "java/lang/Math.floorMod");
    // All places where rows are used directly: each of them looks at its index against the length first.
    private static final Set<String> ROWS = Set.of("GyroTrainer.at", "GyroTrainer.write", "GyroTrainer.copy",
        "GyroTrainer.keep", "GyroTrainer.restore", "GyroTrainer$State.<init>", "GyroTrainer$Latest.add",
        "GyroTrainer$History.takeBack", "GyroTrainer$Pad.append", "GyroTrainer$Pad.signAtIndex");
    // All places where something is divided by what is no constant: each of them looks at it first.
    private static final Set<String> DIVISIONS = Set.of("GyroTrainer.quotient", "GyroTrainer.sine",
        "GyroTrainer$State.nextNoise");

    private static final List<Class<?>> CLASSES = new ArrayList<>();
    private static final Map<String, ClassFile.Body> BODIES = new HashMap<>();

    public static void main(String[] args) throws IOException {
        gather();
        for (Class<?> each : CLASSES) {
            members(each);
        }
        for (ClassFile.Body body : BODIES.values()) {
            body(body);
        }
        depth();
        source();
        T.end();
    }

    private static void holds(String rule, boolean isSo) {
        T.due(rule, isSo ? 1 : 0, 1);
    }

    private static void gather() throws IOException {
        Deque<Class<?>> open = new ArrayDeque<>(List.of(GyroTrainer.class));
        while (!open.isEmpty()) {
            Class<?> each = open.pop();
            CLASSES.add(each);
            open.addAll(List.of(each.getDeclaredClasses()));
            ClassFile file = new ClassFile(each);
            holds("rules 2 and 10: no lambda, no join by + in " + file.name, !file.hasDynamicCalls);
            for (ClassFile.Body body : file.bodies) {
                BODIES.merge(body.name, body, (one, other) -> {
                    throw new IllegalStateException("two methods have the name " + one.name);
                });
            }
        }
        holds("rule 11: at most twelve classes", CLASSES.size() <= 12);
    }

    private static void members(Class<?> each) {
        boolean isFace = each == GyroTrainer.class;
        int modifiers = each.getModifiers();
        holds("rule 1: " + each + " is private or package-visible, and static",
            isFace || Modifier.isStatic(modifiers) && !Modifier.isPublic(modifiers) && !Modifier.isProtected(modifiers));
        holds("rule 12: no other class overrides what a constructor of " + each + " calls", Modifier.isFinal(modifiers));
        int fields = 0;
        for (Field field : each.getDeclaredFields()) {
            boolean isStatic = Modifier.isStatic(field.getModifiers());
            fields += isStatic ? 0 : 1;
            holds("rule 3: the type of " + field, isOwnType(field.getType()));
            holds("rule 5: " + field + " is a constant", !isStatic || isConstant(field));
        }
        holds("rule 11: at most twenty fields in " + each, fields <= 20);
        for (Method method : each.getDeclaredMethods()) {
            holds("rule 11: at most seven parameters of " + method, method.getParameterCount() <= 7);
        }
    }

    /** Numbers, rows of them and classes of the file: other types that the rules leave are not needed here. */
    private static boolean isOwnType(Class<?> type) {
        Class<?> kind = type.isArray() ? type.getComponentType() : type;
        return kind.isPrimitive() || CLASSES.contains(kind) || kind.getName().startsWith("GyroTrainer$");
    }

    private static boolean isConstant(Field field) {
        Class<?> type = field.getType();
        Class<?> kind = type.isArray() ? type.getComponentType() : type;
        return Modifier.isFinal(field.getModifiers()) && (kind == int.class || kind == long.class || kind == char.class
            || kind == (type.isArray() ? byte.class : boolean.class));
    }

    private static void body(ClassFile.Body body) {
        boolean isMaking = body.name.endsWith("init>") || body.name.equals("GyroTrainer.keep");
        holds("rule 4: the library that " + body.name + " calls", body.calls.stream()
            .allMatch(called -> called.startsWith("GyroTrainer") || LIBRARY.contains(called)));
        holds("rule 6: " + body.name + " neither throws nor catches", body.count(191, 191) == 0 && body.catches == 0);
        holds("rule 7: " + body.name + " is known to use rows",
            body.count(46, 53) + body.count(79, 86) == 0 || ROWS.contains(body.name) || body.name.endsWith("<clinit>"));
        holds("rule 7: " + body.name + " is known to divide by what is no constant",
            body.divisionsByNoConstant == 0 || DIVISIONS.contains(body.name));
        holds("rule 7: no cast in " + body.name, body.count(192, 192) == 0);
        holds("rule 12: " + body.name + " makes no objects", isMaking || body.count(187, 189) + body.count(197, 197) == 0);
    }

    private static void depth() {
        int deepest = 0;
        for (String name : BODIES.keySet()) {
            deepest = Math.max(deepest, depth(name, 1));
        }
        System.out.println("the calls that stand open at once: " + deepest);
        holds("rules 8 and 11: calls go at most eight deep", deepest <= 8);
    }

    /** The longest chain of calls from a method on, at most nine. */
    private static int depth(String name, int above) {
        int deepest = above;
        if (above < 9 && BODIES.containsKey(name)) {
            for (String called : BODIES.get(name).calls) {
                if (BODIES.containsKey(called.replace('/', '.'))) {
                    deepest = Math.max(deepest, depth(called.replace('/', '.'), above + 1));
                }
            }
        }
        return deepest;
    }

    private static void source() throws IOException {
        String text = Files.readString(SOURCE);
        String code = text.replaceAll("(?s)/\\*.*?\\*/", "").replaceAll("//[^\n]*", "");
        holds("signs of the file are 1 to 127", text.chars().allMatch(sign -> sign > 0 && sign < 128));
        String[] words = {"package", "import", "throw", "try", "catch", "finally", "synchronized", "assert", "native",
            "volatile", "transient", "float", "double", "instanceof", "while", "yield", "var", "sealed", "strictfp"};
        for (String word : words) {
            holds("it does without " + word, !Pattern.compile("\\b" + word + "\\b").matcher(code).find());
        }
        for (String sign : new String[] {"->", "::", "\"", "@"}) {
            holds("it does without " + sign, !code.contains(sign));
        }
        methodLengths(text.split("\n"));
    }

    private static void methodLengths(String[] lines) {
        Pattern head = Pattern.compile("^((?: {4}){1,2})\\w[^=;]*\\([^=;]*\\) \\{$");
        int methods = 0;
        for (int i = 0; i < lines.length; i++) {
            Matcher matcher = head.matcher(lines[i]);
            if (!matcher.matches() || lines[i].strip().matches("(if|for|switch)\\b.*")) {
                continue;
            }
            methods++;
            int end = i;
            while (!lines[end].equals(matcher.group(1) + "}")) {
                end++;
            }
            holds("rule 11: at most sixty lines: " + lines[i].strip(), end - i < 60);
        }
        int declared = CLASSES.stream().mapToInt(each -> each.getDeclaredMethods().length).sum();
        holds("all methods are found in the source", methods >= declared && declared > 0);
    }
}
