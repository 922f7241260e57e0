import java.io.IOException;
import java.lang.reflect.Constructor;
import java.lang.reflect.Executable;
import java.lang.reflect.Field;
import java.lang.reflect.Method;
import java.lang.reflect.Modifier;
import java.nio.file.Files;
import java.nio.file.Path;
import java.util.ArrayList;
import java.util.Arrays;
import java.util.List;
import java.util.Map;
import java.util.Set;
import java.util.TreeMap;
import java.util.regex.Matcher;
import java.util.regex.Pattern;

/** The rules of LANGUAGE.md that a program can see, by their numbers; the others are for readers. */
public final class LanguageTest {
    private static final Bench BENCH = new Bench("LanguageTest");
    private static final Path SOURCE = Path.of("src/main/java/LoopDevice.java");
    private static final Set<Class<?>> CONSTANTS =
            Set.of(int.class, long.class, boolean.class, char.class, String.class);
    private static final Set<Class<?>> HELD =
            Set.of(int.class, long.class, boolean.class, int[].class, long[].class, boolean[].class);

    /** A method or constructor, four deep in the text or, in a class inside, eight: its name and its body. */
    private static final Pattern METHOD = Pattern.compile(
            "(?ms)^( {4}| {8})(?:[\\w\\[\\]]+ )*(\\w+)\\([^()]*\\) \\{\n(.*?)^\\1\\}$");
    private static final Pattern CALL = Pattern.compile("(\\w+)\\(");

    public static void main(String[] args) throws IOException {
        List<Class<?>> all = new ArrayList<>(List.of(LoopDevice.class));
        all.addAll(Arrays.asList(LoopDevice.class.getDeclaredClasses()));
        BENCH.due("rule 11: some twelve classes at most", all.size() <= 12 ? 1 : 0, 1);
        int methods = 0;
        for (Class<?> one : all) {
            methods += one.getDeclaredMethods().length + one.getDeclaredConstructors().length;
            staticFieldsAreConstants(one);
            fieldsAreFewAndPlain(one, all);
            parametersAreFew(one);
            noNestedNameIsPublic(one);
        }
        String code = withoutComments(Files.readString(SOURCE));
        wordsThatTheRulesLeaveOut(code);
        onlyMathIsUsed(code);
        callsAreNotDeep(bodies(code, methods));
        BENCH.end();
    }

    /** "5. Static fields are final: constants of int, long, boolean, char or String" */
    private static void staticFieldsAreConstants(Class<?> one) {
        for (Field f : one.getDeclaredFields()) {
            if (Modifier.isStatic(f.getModifiers())) {
                boolean constant = Modifier.isFinal(f.getModifiers()) && CONSTANTS.contains(f.getType());
                BENCH.due("rule 5: " + f + " is a constant", constant ? 1 : 0, 1);
            }
        }
    }

    /** "3. Types" and "11. [..] a class some twenty fields beside its constants" */
    private static void fieldsAreFewAndPlain(Class<?> one, List<Class<?>> own) {
        int fields = 0;
        for (Field f : one.getDeclaredFields()) {
            if (!Modifier.isStatic(f.getModifiers())) {
                fields++;
                boolean plain = HELD.contains(f.getType()) || own.contains(f.getType());
                BENCH.due("rule 3: the type of " + f, plain ? 1 : 0, 1);
            }
        }
        BENCH.due("rule 11: fields of " + one.getName(), fields <= 20 ? 1 : 0, 1);
    }

    /** "11. A method takes at most seven parameters." */
    private static void parametersAreFew(Class<?> one) {
        List<Executable> all = new ArrayList<>(Arrays.asList(one.getDeclaredMethods()));
        for (Constructor<?> c : one.getDeclaredConstructors()) {
            all.add(c);
        }
        for (Executable e : all) {
            BENCH.due("rule 11: parameters of " + e, e.getParameterCount() <= 7 ? 1 : 0, 1);
        }
    }

    /** "1. [..] No private method bears the name of a public one.": nor one of a class inside, to be clear */
    private static void noNestedNameIsPublic(Class<?> one) {
        for (Method m : one.getDeclaredMethods()) {
            boolean shared = false;
            for (Method face : LoopDevice.class.getDeclaredMethods()) {
                shared |= Modifier.isPublic(face.getModifiers()) && !m.equals(face)
                        && m.getName().equals(face.getName());
            }
            BENCH.due("rule 1: the name of " + m, shared ? 1 : 0, 0);
        }
    }

    private static String withoutComments(String source) {
        return source.replaceAll("(?s)/\\*.*?\\*/", "").replaceAll("//[^\n]*", "");
    }

    /** Rules 2, 6 and 12: and no call of the document throws, so neither throw nor try has a place */
    private static void wordsThatTheRulesLeaveOut(String code) {
        String[] words = {"package", "import", "throw", "try", "catch", "finally", "synchronized", "assert",
            "instanceof", "volatile", "native", "double", "float", "protected"};
        for (String word : words) {
            boolean found = Pattern.compile("\\b" + word + "\\b").matcher(code).find();
            BENCH.due("the word " + word, found ? 1 : 0, 0);
        }
        for (String sign : new String[] {"->", "::", "\"", "static {"}) {
            BENCH.due("the sign " + sign, code.contains(sign) ? 1 : 0, 0);
        }
    }

    /** "4. The library: only what stands here.": the class needs two functions of Math alone */
    private static void onlyMathIsUsed(String code) {
        String left = code.replaceAll("\\bMath\\.(max|min)\\(", "");
        for (String name : new String[] {"Math", "System", "Arrays", "Integer", "Long", "String", "List", "java"}) {
            boolean found = Pattern.compile("\\b" + name + "\\b").matcher(left).find();
            BENCH.due("rule 4: the library's " + name, found ? 1 : 0, 0);
        }
    }

    /** The bodies of all methods and constructors by their names, those of one name put together. */
    private static Map<String, String> bodies(String code, int expected) {
        Map<String, String> found = new TreeMap<>();
        Matcher method = METHOD.matcher(code);
        int methods = 0;
        while (method.find()) {
            methods++;
            String body = method.group(3);
            BENCH.due("rule 11: lines of " + method.group(2), body.split("\n").length <= 60 ? 1 : 0, 1);
            found.merge(method.group(2), body, String::concat);
        }
        BENCH.due("methods found in the text", methods, expected);
        return found;
    }

    /** "11. [..] calls that are no recursion go at most eight deep": and none is a recursion */
    private static void callsAreNotDeep(Map<String, String> bodies) {
        for (String name : bodies.keySet()) {
            BENCH.due("rule 11: the depth of " + name, depth(name, bodies, 1) <= 8 ? 1 : 0, 1);
        }
    }

    private static int depth(String name, Map<String, String> bodies, int above) {
        int deepest = above;
        Matcher call = CALL.matcher(bodies.get(name));
        // Behind nine levels it is too deep already, and a recursion would never end.
        while (above <= 8 && call.find()) {
            if (bodies.containsKey(call.group(1))) {
                deepest = Math.max(deepest, depth(call.group(1), bodies, above + 1));
            }
        }
        return deepest;
    }
}
