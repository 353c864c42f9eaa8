import java.io.IOException;
import java.lang.reflect.Constructor;
import java.lang.reflect.Executable;
import java.lang.reflect.Field;
import java.lang.reflect.Method;
import java.lang.reflect.Modifier;
import java.nio.charset.StandardCharsets;
import java.nio.file.Files;
import java.nio.file.Path;
import java.util.Arrays;
import java.util.Map;
import java.util.Set;
import java.util.TreeMap;
import java.util.TreeSet;
import java.util.regex.Matcher;
import java.util.regex.Pattern;

/** What of LANGUAGE.md can be looked at by a program: the face, the sizes, the words that may not stand there. */
public final class LanguageTest {
    private static final Path SOURCE = Path.of("src", "main", "java", "NameNoon.java");
    private static final Pattern HEAD = Pattern.compile("^( {4}| {8})[a-zA-Z].* (\\w+)\\(.*\\) \\{$", Pattern.MULTILINE);
    private static final Set<String> LIBRARY = Set.of("arraycopy", "fill", "abs", "min", "max", "floorMod", "bitCount");
    private static final Check check = new Check();

    private static void face() {
        check.promise("rule 1");
        Set<String> due = new TreeSet<>();
        for (String name : Calls.NAMES) due.add(name + " " + Calls.arity(name) + (name.equals("rain") ? " long" : " int"));
        Set<String> is = new TreeSet<>();
        for (Method m : NameNoon.class.getDeclaredMethods()) {
            if (Modifier.isPrivate(m.getModifiers())) continue;
            check.holds(m + " is a plain public method", m.getModifiers() == Modifier.PUBLIC);
            is.add(m.getName() + " " + m.getParameterCount() + " " + m.getReturnType());
            for (Class<?> c : m.getParameterTypes()) check.holds(m + " takes ints", c == int.class);
        }
        check.same("the face", is.toString(), due.toString());
        check.holds("public and final", NameNoon.class.getModifiers() == (Modifier.PUBLIC | Modifier.FINAL));
        Constructor<?>[] made = NameNoon.class.getDeclaredConstructors();
        check.holds("one public constructor", made.length == 1 && made[0].getModifiers() == Modifier.PUBLIC
            && made[0].getParameterCount() == 0);
        Set<String> constants = new TreeSet<>();
        for (Field f : NameNoon.class.getDeclaredFields()) {
            if (!Modifier.isPrivate(f.getModifiers())) constants.add(f.getName() + " " + Modifier.toString(f.getModifiers()));
        }
        check.same("the constants", constants.toString(), "[BAD public static final, FULL public static final, "
            + "NONE public static final, STATE public static final]");
    }

    private static void classesInside() {
        Set<String> face = new TreeSet<>(Arrays.asList(Calls.NAMES));
        Class<?>[] inside = NameNoon.class.getDeclaredClasses();
        check.promise("rule 11");
        check.holds("at most twelve classes", inside.length < 12);
        for (Class<?> c : inside) {
            check.promise("rule 2");
            check.holds(c + " is static", Modifier.isStatic(c.getModifiers()));
            check.holds(c + " has no class inside", c.getDeclaredClasses().length == 0);
            membersOf(c, face);
        }
        membersOf(NameNoon.class, face);
    }

    private static void membersOf(Class<?> c, Set<String> face) {
        int fields = 0;
        for (Field f : c.getDeclaredFields()) {
            check.promise("rule 5");
            if (Modifier.isStatic(f.getModifiers())) check.holds(f + " is final", Modifier.isFinal(f.getModifiers()));
            else fields++;
        }
        check.promise("rule 11");
        check.holds(c + " has at most twenty fields", fields <= 20);
        for (Method m : c.getDeclaredMethods()) {
            check.promise("rule 11");
            check.holds(m + " takes at most seven", ((Executable) m).getParameterCount() <= 7);
            check.promise("rule 1");
            boolean named = face.contains(m.getName());
            check.holds(m + " bears a name of the face", !named || c == NameNoon.class && Modifier.isPublic(m.getModifiers()));
        }
    }

    private static final String[] NEVER = {"throw", "throws", "try", "catch", "finally", "synchronized", "assert", "native",
        "volatile", "transient", "package", "protected", "Thread", "Random", "Runtime", "nanoTime", "currentTimeMillis",
        "Object", "Exception", "Error", "hashCode", "var", "yield", "float", "double", "HashMap", "Map", "Set", "Optional",
        "addExact", "multiplyExact", "toIntExact", "subtractExact", "negateExact"};

    private static void words(String code) {
        check.promise("rules 2, 4, 6, 13");
        for (String word : NEVER) check.holds("the word " + word, !Pattern.compile("\\b" + word + "\\b").matcher(code).find());
        check.holds("no lambda, no method reference", !code.contains("->") && !code.contains("::"));
        check.holds("no static block", !Pattern.compile("static\\s*\\{").matcher(code).find());
        Matcher imports = Pattern.compile("import ([^;]*);").matcher(code);
        while (imports.find()) check.same("an import", imports.group(1), "java.util.Arrays");
        Matcher library = Pattern.compile("\\b(System|Arrays|Math|Integer|Long)\\.(\\w+)").matcher(code);
        Set<String> allowed = Set.of("System.arraycopy", "Arrays.fill", "Math.abs", "Math.min", "Math.max", "Math.floorMod",
            "Integer.bitCount");
        while (library.find()) check.holds(library.group() + " is allowed", allowed.contains(library.group()));
        for (char c : code.toCharArray()) check.holds("the sign " + (int) c, c == '\n' || c >= 32 && c < 127);
    }

    /** The methods of the file by name, each with its lines; constructors are not among them. */
    private static Map<String, String> methods(String code) {
        String[] lines = code.split("\n");
        Map<String, String> methods = new TreeMap<>();
        for (int i = 0; i < lines.length; i++) {
            Matcher m = HEAD.matcher(lines[i]);
            if (!m.matches() || Character.isUpperCase(m.group(2).charAt(0))) continue;
            StringBuilder text = new StringBuilder();
            for (int k = i; k < lines.length && !lines[k].startsWith(m.group(1) + "}"); k++) text.append(lines[k]).append('\n');
            methods.merge(m.group(2), text.toString(), String::concat);
        }
        check.holds("the calls of the face are found", methods.keySet().containsAll(Arrays.asList(Calls.NAMES)));
        return methods;
    }

    private static void lengths(Map<String, String> methods) {
        check.promise("rule 11");
        for (String name : methods.keySet()) {
            check.holds(name + " has more than sixty lines", methods.get(name).split("\n").length <= 60);
        }
    }

    private static Set<String> called(String text) {
        Set<String> names = new TreeSet<>();
        Matcher call = Pattern.compile("\\b(\\w+)\\(").matcher(HEAD.matcher(text).replaceAll(""));
        while (call.find()) names.add(call.group(1));
        return names;
    }

    /** How many calls stand open at once below a method, a library's too; what is open already is recursion. */
    private static int depth(Map<String, String> methods, String name, Set<String> open) {
        int deepest = 0;
        open.add(name);
        for (String next : called(methods.get(name))) {
            if (open.contains(next)) continue;
            if (methods.containsKey(next)) deepest = Math.max(deepest, depth(methods, next, open));
            else if (LIBRARY.contains(next)) deepest = Math.max(deepest, 1);
        }
        open.remove(name);
        return deepest + 1;
    }

    private static void calls(Map<String, String> methods) {
        for (String name : methods.keySet()) {
            String text = methods.get(name);
            check.promise("rule 8");
            check.holds(name + " calls itself and is not private static",
                !called(text).contains(name) || text.trim().startsWith("private static "));
            check.promise("rule 11");
            check.holds(name + " goes more than eight deep", depth(methods, name, new TreeSet<>()) <= 8);
        }
    }

    private static String bare(String source) {
        return source.replaceAll("(?s)/\\*.*?\\*/", "").replaceAll("//[^\n]*", "").replaceAll("'[^'\n]*'", "'x'");
    }

    public static void main(String[] args) throws IOException {
        String code = bare(new String(Files.readAllBytes(SOURCE), StandardCharsets.ISO_8859_1));
        face();
        classesInside();
        words(code);
        Map<String, String> methods = methods(code);
        lengths(methods);
        calls(methods);
        check.end();
    }
}
