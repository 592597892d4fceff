import java.io.IOException;
import java.lang.reflect.InvocationTargetException;
import java.lang.reflect.Method;
import java.nio.charset.StandardCharsets;
import java.nio.file.Files;
import java.nio.file.Paths;
import java.util.regex.Matcher;
import java.util.regex.Pattern;

/** Each call that README.md shows answers what stands behind it there; they are one run of calls. */
public final class ReadmeTest {
    private static final Due due = new Due("ReadmeTest");
    private static final Pattern BLOCK = Pattern.compile("(?s)```java\n(.*?)```");
    private static final Pattern CALL = Pattern.compile("(?:x\\.(\\w+)\\((.*)\\)|text\\(x, \"(.*)\"\\)); +// (-?\\d+)\\b.*");
    private static final String NEW = "WayBoxes x = new WayBoxes();";

    public static void main(String[] args) throws IOException {
        String page = new String(Files.readAllBytes(Paths.get("README.md")), StandardCharsets.UTF_8);
        Matcher blocks = BLOCK.matcher(page);
        WayBoxes x = new WayBoxes();
        while (blocks.find()) {
            for (String line : blocks.group(1).split("\n")) {
                if (line.equals(NEW)) continue;
                Matcher call = CALL.matcher(line);
                due.isTrue("a call with its answer: " + line, call.matches());
                if (call.matches()) due.is(line, Long.parseLong(call.group(4)), answer(x, call));
            }
        }
        everyCall(page);
        due.end();
    }

    private static long answer(WayBoxes x, Matcher call) {
        if (call.group(3) != null) return Due.text(x, call.group(3));
        String[] told = call.group(2).isEmpty() ? new String[0] : call.group(2).split(", ");
        for (Method method : WayBoxes.class.getMethods()) {
            if (!method.getName().equals(call.group(1)) || method.getParameterCount() != told.length) continue;
            if (method.getDeclaringClass() == WayBoxes.class) return answer(x, method, told);
        }
        throw new IllegalStateException(call.group());
    }

    private static long answer(WayBoxes x, Method method, String[] told) {
        Object[] numbers = new Object[told.length];
        for (int i = 0; i < told.length; i++) {
            boolean isLong = method.getParameterTypes()[i] == long.class;
            numbers[i] = isLong ? (Object) Long.decode(told[i].replace("L", "")) : (Object) Integer.decode(told[i]);
        }
        try {
            return (Integer) method.invoke(x, numbers);
        } catch (IllegalAccessException | InvocationTargetException e) {
            throw new IllegalStateException(e);
        }
    }

    private static void everyCall(String page) {
        for (Method method : WayBoxes.class.getMethods()) {
            if (method.getDeclaringClass() != WayBoxes.class) continue;
            due.isTrue("README.md names " + method.getName(), page.contains("`" + method.getName() + "`"));
        }
    }
}
