import java.lang.reflect.Method;
import java.lang.reflect.Modifier;
import java.nio.charset.StandardCharsets;
import java.nio.file.Files;
import java.nio.file.Path;
import java.util.Set;
import java.util.TreeSet;
import java.util.regex.Matcher;
import java.util.regex.Pattern;

/** Each call that README.md shows answers what README.md says, and each call of the face is shown. */
public final class ReadmeTest {
    private static final Pattern CALL = Pattern.compile("rope\\.(\\w+)\\(([-0-9, ]*)\\); +// (-?\\d+)(:.*)?");
    private static final Pattern FED = Pattern.compile("for \\(char c : \"([^\"]*)\"\\.toCharArray\\(\\)\\) rope\\.feed\\(c\\);");
    private static int wrong;
    private static int shown;
    private static FetchRope rope;

    private static void fault(String what) {
        wrong++;
        System.out.println("ReadmeTest: " + what);
    }

    private static Method method(String name, int arguments) {
        for (Method m : FetchRope.class.getMethods()) {
            if (m.getName().equals(name) && m.getDeclaringClass() == FetchRope.class && m.getParameterCount() == arguments) return m;
        }
        return null;
    }

    private static long answer(Method m, String[] told) throws Exception {
        Object[] given = new Object[told.length];
        for (int i = 0; i < told.length; i++) {
            long n = Long.parseLong(told[i].trim());
            given[i] = m.getParameterTypes()[i] == long.class ? (Object) n : (Object) (int) n;
        }
        return ((Number) m.invoke(rope, given)).longValue();
    }

    private static void call(Matcher line) throws Exception {
        String[] told = line.group(2).isEmpty() ? new String[0] : line.group(2).split(",");
        Method m = method(line.group(1), told.length);
        if (m == null) {
            fault("there is no such call: " + line.group());
            return;
        }
        long is = answer(m, told);
        shown++;
        if (is != Long.parseLong(line.group(3))) fault(line.group() + " is answered " + is);
    }

    private static void line(String line) throws Exception {
        Matcher fed = FED.matcher(line);
        Matcher call = CALL.matcher(line);
        if (line.equals("FetchRope rope = new FetchRope();")) {
            rope = new FetchRope();
        } else if (fed.matches()) {
            for (char c : fed.group(1).toCharArray()) rope.feed(c);
        } else if (call.matches()) {
            call(call);
        } else {
            fault("a line that is no call with its answer: " + line);
        }
    }

    /** A call that this page leaves out would have to be learnt from the source. */
    private static void namesAll(String page) {
        Set<String> missing = new TreeSet<>();
        for (Method m : FetchRope.class.getDeclaredMethods()) {
            boolean named = Pattern.compile("rope\\." + m.getName() + "\\(").matcher(page).find();
            if (Modifier.isPublic(m.getModifiers()) && !named) missing.add(m.getName());
        }
        if (!missing.isEmpty()) fault("README.md does not show " + missing);
    }

    public static void main(String[] args) throws Exception {
        String page = Files.readString(Path.of("README.md"), StandardCharsets.UTF_8);
        Matcher block = Pattern.compile("```java\n(.*?)```", Pattern.DOTALL).matcher(page);
        while (block.find()) {
            for (String line : block.group(1).split("\n")) line(line);
        }
        namesAll(page);
        if (shown == 0) fault("README.md shows no call");
        System.out.println("ReadmeTest: " + shown + " calls shown, " + wrong + " faults");
        if (wrong != 0) System.exit(1);
    }
}
