import java.io.IOException;
import java.lang.reflect.Constructor;
import java.lang.reflect.Field;
import java.lang.reflect.Method;
import java.lang.reflect.Modifier;
import java.nio.charset.StandardCharsets;
import java.nio.file.Files;
import java.nio.file.Paths;
import java.util.ArrayList;
import java.util.Arrays;
import java.util.HashMap;
import java.util.HashSet;
import java.util.List;
import java.util.Map;
import java.util.Set;
import java.util.TreeMap;
import java.util.TreeSet;
import java.util.regex.Matcher;
import java.util.regex.Pattern;

/** What ../shared/LANGUAGE.md asks of src/main/java/WayBoxes.java, as far as it can be seen from outside. */
public final class RulesTest {
    private static final Due due = new Due("RulesTest");
    private static final String FACE = "act(int,int,int)int as(int,int)int box(int,int)int "
            + "cell(int,int,int,int)int copy(int)int count(int)int fall(int)int feed(long,int)int hold(int)int "
            + "image()int latest(int)int lead(int,int,int)int led(int,int)int letter(int,int,int,int)int "
            + "lines(int,int)int orders(int,int,int,int,int)int part(int,int,int,int)int release()int "
            + "row(int)int send(int,int,int,int)int shown(int,int,int,int,int)int text()int trace(int)int "
            + "undo()int ways(int,int,int,int)int whole(int,int,int)int work(int,int,int,int,int)int";

    public static void main(String[] args) throws IOException {
        face();
        constants();
        classesInside();
        String source = new String(Files.readAllBytes(Paths.get("src/main/java/WayBoxes.java")),
                StandardCharsets.UTF_8);
        String bare = source.replaceAll("(?s)/\\*.*?\\*/", "").replaceAll("//[^\n]*", "");
        words(bare);
        imports(bare);
        loops(bare);
        methodLengths(bare);
        callDepths(bare);
        recursion(bare);
        due.end();
    }

    private static String types(Class<?>[] types) {
        StringBuilder all = new StringBuilder();
        for (Class<?> type : types) all.append(all.length() == 0 ? "" : ",").append(type.getName());
        return "(" + all + ")";
    }

    private static void face() {
        Set<String> seen = new TreeSet<>();
        for (Method method : WayBoxes.class.getDeclaredMethods()) {
            if (Modifier.isPublic(method.getModifiers())) {
                seen.add(method.getName() + types(method.getParameterTypes()) + method.getReturnType());
            } else {
                due.isTrue(method + " is private", Modifier.isPrivate(method.getModifiers()));
            }
        }
        due.isTrue("the face: " + seen, seen.equals(new TreeSet<>(Arrays.asList(FACE.split(" ")))));
        Constructor<?>[] constructors = WayBoxes.class.getDeclaredConstructors();
        due.is("constructors", 1, constructors.length);
        due.isTrue("public WayBoxes()", Modifier.isPublic(constructors[0].getModifiers())
                && constructors[0].getParameterCount() == 0);
        int modifiers = WayBoxes.class.getModifiers();
        due.isTrue("public final", Modifier.isPublic(modifiers) && Modifier.isFinal(modifiers));
    }

    private static void constants() {
        due.is("NONE", -1, WayBoxes.NONE);
        due.is("BAD", -2, WayBoxes.BAD);
        due.is("STATE", -3, WayBoxes.STATE);
        due.is("FULL", -4, WayBoxes.FULL);
        Set<String> open = new TreeSet<>();
        for (Field field : WayBoxes.class.getDeclaredFields()) {
            if (!Modifier.isPrivate(field.getModifiers())) open.add(field.getName());
        }
        due.isTrue("constants: " + open, open.toString().equals("[BAD, FULL, NONE, STATE]"));
    }

    private static void classesInside() {
        Class<?>[] inside = WayBoxes.class.getDeclaredClasses();
        due.isTrue("some twelve classes", inside.length + 1 <= 12);
        Set<String> names = new HashSet<>();
        for (Method method : WayBoxes.class.getMethods()) {
            if (method.getDeclaringClass() == WayBoxes.class) names.add(method.getName());
        }
        for (Class<?> one : inside) {
            due.isTrue(one + " is static", Modifier.isStatic(one.getModifiers()));
            due.isTrue(one + " is not public", !Modifier.isPublic(one.getModifiers()));
            int fields = 0;
            for (Field field : one.getDeclaredFields()) {
                if (!Modifier.isStatic(field.getModifiers())) fields++;
                else due.isTrue(field + " is final", Modifier.isFinal(field.getModifiers()));
            }
            due.isTrue(one + " has some twenty fields", fields <= 20);
            for (Method method : one.getDeclaredMethods()) {
                due.isTrue(method + " has no name of the face", !names.contains(method.getName()));
                due.isTrue(method + " takes at most seven", method.getParameterCount() <= 7);
            }
        }
    }

    private static void words(String bare) {
        List<String> never = Arrays.asList("throw", "throws", "try", "catch", "finally", "synchronized", "assert",
                "instanceof Object", "volatile", "transient", "native", "double", "float", "Object", "System.out",
                "Random", "Thread", "hashCode", "equals", "toString", "Exact");
        for (String word : never) {
            due.isTrue("no " + word, !Pattern.compile("\\b" + Pattern.quote(word) + "\\b").matcher(bare).find());
        }
        for (String sign : new String[] {"->", "::", "\"", "@", "...", "?>"}) {
            due.isTrue("no " + sign, !bare.contains(sign));
        }
        due.isTrue("signs 1 to 127", bare.chars().allMatch(c -> c > 0 && c < 128));
        Matcher calls = Pattern.compile("\\b(System|Arrays|Integer|Long|Math)\\.(\\w+)").matcher(bare);
        List<String> may = Arrays.asList("System.arraycopy", "Arrays.fill", "Integer.bitCount");
        while (calls.find()) due.isTrue("may call " + calls.group(), may.contains(calls.group()));
    }

    private static void imports(String bare) {
        Matcher imports = Pattern.compile("import ([^;]+);").matcher(bare);
        while (imports.find()) due.isTrue("import " + imports.group(1), imports.group(1).equals("java.util.Arrays"));
        due.isTrue("no package", !Pattern.compile("\\bpackage\\b").matcher(bare).find());
    }

    private static void loops(String bare) {
        for (String endless : new String[] {"while \\(true\\)", "for \\([^;]*;\\s*;", "new \\w+\\([^;]*\\) \\{"}) {
            due.isTrue("no " + endless, !Pattern.compile(endless).matcher(bare).find());
        }
    }

    /** A method begins at a line that ends with ") {" four or eight places in, and ends at a } there. */
    private static List<String> methods(String bare) {
        List<String> methods = new ArrayList<>();
        String[] lines = bare.split("\n");
        for (int from = 0; from < lines.length; from++) {
            Matcher head = Pattern.compile("( {4}| {8})\\S.*\\) \\{").matcher(lines[from]);
            if (!head.matches() || lines[from].trim().matches("(if|for|while|switch|\\}).*")) continue;
            int to = from;
            while (to < lines.length && !lines[to].equals(head.group(1) + "}")) to++;
            methods.add(String.join("\n", Arrays.asList(lines).subList(from, Math.min(to + 1, lines.length))));
        }
        return methods;
    }

    private static void methodLengths(String bare) {
        for (String method : methods(bare)) {
            due.isTrue("short: " + nameOf(method), method.split("\n").length <= 61);
        }
    }

    private static String nameOf(String method) {
        Matcher name = Pattern.compile("(\\w+)\\(").matcher(method);
        return name.find() ? name.group(1) : "";
    }

    /** Calls that are no recursion go at most eight deep; methods of one name are taken for one. */
    private static void callDepths(String bare) {
        Map<String, Set<String>> calls = calls(bare, "(\\w+)\\(");
        due.isTrue("methods are found", calls.size() > 80 && calls.get("orders").contains("shortest"));
        Map<String, Integer> depths = new HashMap<>();
        for (String name : calls.keySet()) {
            int depth = depth(name, calls, depths);
            due.isTrue(name + " goes " + depth + " deep", depth <= 8);
        }
    }

    /** Which methods each method calls, as a pattern of a call finds them. */
    private static Map<String, Set<String>> calls(String bare, String pattern) {
        Map<String, Set<String>> calls = new TreeMap<>();
        for (String method : methods(bare)) calls.computeIfAbsent(nameOf(method), name -> new TreeSet<>());
        for (String method : methods(bare)) {
            Matcher called = Pattern.compile(pattern).matcher(method.substring(method.indexOf('{')));
            while (called.find()) {
                if (calls.containsKey(called.group(1))) calls.get(nameOf(method)).add(called.group(1));
            }
        }
        return calls;
    }

    /** A method that calls itself is private and static, methods that call one another are private. */
    private static void recursion(String bare) {
        // A call behind a dot is another object's.
        Map<String, Set<String>> calls = calls(bare, "(?<![.\\w])(\\w+)\\(");
        Set<String> again = new TreeSet<>();
        for (String method : methods(bare)) {
            String name = nameOf(method);
            String head = method.trim();
            if (!reached(name, calls).contains(name)) continue;
            again.add(name);
            due.isTrue(name + " is private", head.startsWith("private "));
            boolean calledByItself = calls.get(name).contains(name);
            due.isTrue(name + " is static", !calledByItself || head.startsWith("private static "));
        }
        due.isTrue("recursion is found: " + again, again.contains("finds") && again.contains("readsE"));
    }

    private static Set<String> reached(String name, Map<String, Set<String>> calls) {
        Set<String> reached = new TreeSet<>();
        List<String> next = new ArrayList<>(calls.get(name));
        while (!next.isEmpty()) {
            String called = next.remove(next.size() - 1);
            if (reached.add(called)) next.addAll(calls.get(called));
        }
        return reached;
    }

    /** How many methods stand open at once at most; those of a recursion each once. */
    private static int depth(String name, Map<String, Set<String>> calls, Map<String, Integer> depths) {
        if (depths.containsKey(name)) return depths.get(name);
        Set<String> together = new TreeSet<>();
        together.add(name);
        for (String other : reached(name, calls)) {
            if (reached(other, calls).contains(name)) together.add(other);
        }
        int below = 0;
        for (String one : together) {
            for (String called : calls.get(one)) {
                if (!together.contains(called)) below = Math.max(below, depth(called, calls, depths));
            }
        }
        depths.put(name, together.size() + below);
        return together.size() + below;
    }
}
