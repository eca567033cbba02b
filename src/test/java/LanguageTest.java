import java.lang.reflect.Array;
import java.lang.reflect.Field;
import java.lang.reflect.Method;
import java.lang.reflect.Modifier;
import java.nio.file.Files;
import java.nio.file.Path;
import java.util.ArrayList;
import java.util.HashSet;
import java.util.IdentityHashMap;
import java.util.List;
import java.util.Map;
import java.util.Set;
import java.util.TreeMap;
import java.util.TreeSet;
import java.util.regex.Matcher;
import java.util.regex.Pattern;

/** The rules of LANGUAGE.md, as far as the source's text and the compiled classes show them. */
public final class LanguageTest {
    private static final Path SOURCE = Path.of("src/main/java/SharedSense.java");
    private static final Set<String> FORBIDDEN_WORDS = Set.of(
        "package", "import", "throw", "throws", "try", "catch", "finally", "synchronized", "assert",
        "native", "volatile", "transient", "var", "yield");
    private static final Set<String> CONTROL_WORDS = Set.of("if", "for", "while", "switch", "return", "super", "this");
    private static final Set<String> LIBRARY = Set.of("Integer.bitCount", "Long.bitCount", "Math.min");
    private static final Set<Class<?>> CONSTANT_TYPES = Set.of(
        int.class, long.class, boolean.class, char.class, String.class,
        int[].class, long[].class, char[].class, byte[].class);
    private static final Set<Class<?>> PLAIN_TYPES = Set.of(
        void.class, int.class, long.class, short.class, byte.class, char.class, boolean.class);

    private static final int MOST_CLASSES = 12;
    private static final int MOST_FIELDS = 20;
    private static final int MOST_PARAMETERS = 7;
    private static final int MOST_METHOD_LINES = 60;
    private static final int MOST_OPEN_CALLS = 8;
    // A run's room is some 600,000 objects and 7.3 million fields and elements: room for a thousand of these.
    private static final int MOST_OBJECTS = 600;
    private static final int MOST_PLACES = 7300;

    private static int wrong = 0;

    public static void main(String[] args) throws Exception {
        String code = withoutCommentsAndSigns(Files.readString(SOURCE));
        words(code);
        library(code);
        for (Class<?> each : SharedSense.class.getNestMembers()) {
            nested(each);
            fields(each);
            methods(each);
        }
        atMost("11: classes", MOST_CLASSES, SharedSense.class.getNestMembers().length);
        Map<String, List<String>> bodies = bodiesByName(code);
        makingOfObjects(bodies);
        for (String name : bodies.keySet()) {
            atMost("11: calls open below " + name, MOST_OPEN_CALLS, openCalls(name, bodies, new HashSet<>()));
        }
        room();
        if (wrong != 0) {
            System.exit(1);
        }
    }

    private static void fault(String rule) {
        wrong++;
        System.out.println("LANGUAGE.md " + rule);
    }

    private static void atMost(String rule, int most, int got) {
        if (got > most) {
            fault(rule + ": " + got + ", at most " + most);
        }
    }

    private static String withoutCommentsAndSigns(String source) {
        return source.replaceAll("(?s)/\\*.*?\\*/", "").replaceAll("//[^\n]*", "").replaceAll("'.'", "0");
    }

    // Rules 2, 4, 6 and 13: what the text must not have.
    private static void words(String code) {
        Matcher word = Pattern.compile("[A-Za-z_]\\w*").matcher(code);
        while (word.find()) {
            if (FORBIDDEN_WORDS.contains(word.group())) {
                fault("has the word " + word.group());
            }
        }
        for (String sign : List.of("->", "::", "@", "\"", "<>")) {
            if (code.contains(sign)) {
                fault("has the sign " + sign);
            }
        }
        if (Pattern.compile("static\\s*\\{").matcher(code).find()) {
            fault("5: a static initialiser block");
        }
    }

    private static void library(String code) {
        Matcher use = Pattern.compile("\\b([A-Z]\\w*[a-z]\\w*)(\\.\\w+)?").matcher(code);
        while (use.find()) {
            if (!isOwn(use.group(1)) && !LIBRARY.contains(use.group())) {
                fault("3, 4: " + use.group());
            }
        }
    }

    private static boolean isOwn(String name) {
        for (Class<?> each : SharedSense.class.getNestMembers()) {
            if (each.getSimpleName().equals(name)) {
                return true;
            }
        }
        return false;
    }

    private static void nested(Class<?> each) {
        if (each == SharedSense.class) {
            return;
        }
        int as = each.getModifiers();
        if (!each.isMemberClass() || !Modifier.isStatic(as) || Modifier.isPublic(as) || Modifier.isProtected(as)) {
            fault("1, 2: " + each.getName());
        }
    }

    private static void fields(Class<?> each) {
        int own = 0;
        for (Field field : each.getDeclaredFields()) {
            if (Modifier.isStatic(field.getModifiers())) {
                if (!Modifier.isFinal(field.getModifiers()) || !CONSTANT_TYPES.contains(field.getType())) {
                    fault("5: " + field);
                }
            } else {
                own++;
                if (!isAllowed(field.getType())) {
                    fault("3: " + field);
                }
            }
        }
        atMost("11: fields of " + each.getName(), MOST_FIELDS, own);
    }

    private static void methods(Class<?> each) {
        Set<String> face = new TreeSet<>();
        for (Method method : SharedSense.class.getMethods()) {
            face.add(method.getName());
        }
        for (Method method : each.getDeclaredMethods()) {
            atMost("11: parameters of " + method, MOST_PARAMETERS, method.getParameterCount());
            boolean allowed = isAllowed(method.getReturnType());
            for (Class<?> type : method.getParameterTypes()) {
                allowed &= isAllowed(type);
            }
            if (!allowed) {
                fault("3: " + method);
            }
            if (!Modifier.isPublic(method.getModifiers()) && face.contains(method.getName())) {
                fault("1: bears a public method's name: " + method);
            }
        }
    }

    /** The numbers, own classes, and rows of both. */
    private static boolean isAllowed(Class<?> type) {
        Class<?> part = type.isArray() ? type.getComponentType() : type;
        return PLAIN_TYPES.contains(part) || part.getNestHost() == SharedSense.class;
    }

    /** Bodies of methods and constructors; those of one name together, as a call tells no more. */
    private static Map<String, List<String>> bodiesByName(String code) {
        Map<String, List<String>> bodies = new TreeMap<>();
        Matcher head = Pattern.compile("(?m)^( +)(?:[\\w\\[\\]]+ )*(\\w+)\\([^()\n]*\\) \\{$").matcher(code);
        while (head.find()) {
            if (CONTROL_WORDS.contains(head.group(2))) {
                continue;
            }
            int from = head.end();
            int to = code.indexOf("\n" + head.group(1) + "}", from);
            String body = code.substring(from, to);
            bodies.computeIfAbsent(head.group(2), name -> new ArrayList<>()).add(body);
            atMost("11: lines of " + head.group(2), MOST_METHOD_LINES, body.split("\n").length);
        }
        return bodies;
    }

    private static int openCalls(String name, Map<String, List<String>> bodies, Set<String> open) {
        // The search for the fewest clauses is the one recursion, with a guard of its own.
        if (!bodies.containsKey(name) || !open.add(name)) {
            if (open.contains(name) && !name.equals("choose") && !name.equals("work")) {
                fault("8: a recursion through " + name);
            }
            return 0;
        }
        int most = 0;
        for (String body : bodies.get(name)) {
            Matcher call = Pattern.compile("(\\w+)\\(").matcher(body);
            while (call.find()) {
                if (bodies.containsKey(call.group(1))) {
                    most = Math.max(most, openCalls(call.group(1), bodies, open));
                }
            }
        }
        open.remove(name);
        return most + 1;
    }

    /** Rule 12, and the room of a run: what is made, is made in constructors. */
    private static void makingOfObjects(Map<String, List<String>> bodies) {
        for (Map.Entry<String, List<String>> each : bodies.entrySet()) {
            for (String body : each.getValue()) {
                if (!isOwn(each.getKey()) && Pattern.compile("\\bnew\\b").matcher(body).find()) {
                    fault("12: " + each.getKey() + " makes an object");
                }
            }
        }
    }

    private static void room() throws Exception {
        SharedSense x = new SharedSense();
        int[] before = sizeOf(x);
        atMost("12: objects", MOST_OBJECTS, before[0]);
        atMost("12: fields and elements", MOST_PLACES, before[1]);
        Runs.type(x, Runs.MIXED);
        x.clauses();
        Runs.type(x, Runs.MIXED_PROOF);
        x.proof();
        x.needed(0);
        x.fewest(0);
        x.copy(0, 0, 255);
        x.labour(3, 0);
        int[] behind = sizeOf(x);
        if (before[0] != behind[0] || before[1] != behind[1]) {
            fault("12: calls make an object larger");
        }
    }

    /** How many objects and rows an object keeps, with itself, and how many fields and elements these have. */
    private static int[] sizeOf(Object root) throws Exception {
        Set<Object> seen = java.util.Collections.newSetFromMap(new IdentityHashMap<>());
        List<Object> open = new ArrayList<>(List.of(root));
        seen.add(root);
        int places = 0;
        while (!open.isEmpty()) {
            Object next = open.remove(open.size() - 1);
            List<Object> parts = new ArrayList<>();
            if (next.getClass().isArray()) {
                places += Array.getLength(next);
                if (next instanceof Object[] row) {
                    parts.addAll(List.of(row));
                }
            } else {
                places += partsOf(next, parts);
            }
            for (Object part : parts) {
                if (seen.add(part)) {
                    open.add(part);
                }
            }
        }
        return new int[] {seen.size(), places};
    }

    private static int partsOf(Object of, List<Object> parts) throws Exception {
        int fields = 0;
        for (Class<?> kind = of.getClass(); kind != Object.class; kind = kind.getSuperclass()) {
            for (Field field : kind.getDeclaredFields()) {
                if (Modifier.isStatic(field.getModifiers())) {
                    continue;
                }
                fields++;
                if (!field.getType().isPrimitive()) {
                    field.setAccessible(true);
                    parts.add(field.get(of));
                }
            }
        }
        return fields;
    }
}
