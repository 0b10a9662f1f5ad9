import java.lang.reflect.Constructor;
import java.lang.reflect.Field;
import java.lang.reflect.Method;
import java.lang.reflect.Modifier;
import java.nio.charset.StandardCharsets;
import java.nio.file.Files;
import java.nio.file.Path;
import java.util.Arrays;
import java.util.Set;
import java.util.TreeSet;
import java.util.regex.Matcher;
import java.util.regex.Pattern;

/** The public face to the letter, and of LANGUAGE.md what can be seen by reflection and in the source. */
public final class FaceTest {
    private static final String[] FACE = {
        "int sledge(int,int,int,int,int,int)", "int of(int,int)", "int set(int,int,int)", "int row(int,int,int)", "int feed(int)",
        "int hill()", "int told(int)", "int run(int,int)", "int hour()", "int with(int)", "int ballast(int,int,int)", "int best(int,int)",
        "int never()", "int when(int,int)", "int can(int,int)", "int dusk(int)", "int runs(int,int)", "int two(int)", "int price(int)",
        "int plan(int,int)", "int wear(int)", "long odds(int,int,int)", "long mean(int)", "int book(int,int)", "int looked()",
        "int judge(int,int)", "int image()", "int undo()", "int act(int,int,int)", "int trace(int)", "int taken(int,int)", "int count(int)",
        "int tape(int,int,int)", "int item(int,int,long)", "long read(int,int)", "int shift(int,int,int,int,int)",
    };
    private static final Set<String> CONSTANT = Set.of("int", "long", "boolean", "char", "String", "int[]", "long[]", "char[]", "byte[]");
    private static int wrong;

    private static void check(boolean right, String what) {
        if (!right) {
            wrong++;
            System.out.println("FaceTest: " + what);
        }
    }

    private static String told(Method m) {
        StringBuilder s = new StringBuilder(m.getReturnType() + " " + m.getName() + "(");
        for (Class<?> p : m.getParameterTypes()) s.append(s.charAt(s.length() - 1) == '(' ? "" : ",").append(p);
        return s.append(")").toString();
    }

    private static void face() throws Exception {
        Set<String> due = new TreeSet<>(Arrays.asList(FACE));
        Set<String> is = new TreeSet<>();
        Set<String> names = new TreeSet<>();
        for (Method m : FetchRope.class.getDeclaredMethods()) {
            if (!Modifier.isPrivate(m.getModifiers())) {
                is.add(told(m));
                names.add(m.getName());
                check(m.getModifiers() == Modifier.PUBLIC, m + " is not public alone");
                check(m.getExceptionTypes().length == 0, m + " tells exceptions");
            }
        }
        check(is.equals(due), "the methods are " + is);
        for (Method m : FetchRope.class.getDeclaredMethods()) {
            check(!Modifier.isPrivate(m.getModifiers()) || !names.contains(m.getName()), m + " bears a public name");
        }
        Constructor<?>[] made = FetchRope.class.getDeclaredConstructors();
        check(made.length == 1 && made[0].getModifiers() == Modifier.PUBLIC && made[0].getParameterCount() == 0, "the constructor");
        check(FetchRope.class.getModifiers() == (Modifier.PUBLIC | Modifier.FINAL), "the class is not public final");
        Set<String> constants = new TreeSet<>();
        for (Field f : FetchRope.class.getDeclaredFields()) {
            if (Modifier.isPrivate(f.getModifiers())) continue;
            check(f.getModifiers() == (Modifier.PUBLIC | Modifier.STATIC | Modifier.FINAL), f + " is no constant");
            constants.add(f.getType() + " " + f.getName() + " " + f.get(null));
        }
        check(constants.toString().equals("[int BAD -2, int FULL -4, int NONE -1, int STATE -3, long NO " + Long.MIN_VALUE + "]"), "the constants are " + constants);
    }

    private static void shape(Class<?> c) {
        int fields = 0;
        for (Field f : c.getDeclaredFields()) {
            check(!Modifier.isStatic(f.getModifiers()) || Modifier.isFinal(f.getModifiers()), f + " is static and not final");
            check(!Modifier.isStatic(f.getModifiers()) || CONSTANT.contains(f.getType().getSimpleName()), f + " is no constant of rule 5");
            fields += Modifier.isStatic(f.getModifiers()) ? 0 : 1;
        }
        check(fields <= 20, c + " has " + fields + " fields");
        for (Method m : c.getDeclaredMethods()) {
            check(m.getParameterCount() <= 7, m + " has too many parameters");
            check(!m.isSynthetic(), m + " is made by the compiler");
        }
    }

    /** Comments, texts and signs go, so that only the program's own words are looked at. */
    private static String bare(String source) {
        return Pattern.compile("/\\*.*?\\*/|//[^\\n]*|\"(\\\\.|[^\"\\\\])*\"|'(\\\\.|[^'\\\\])'", Pattern.DOTALL).matcher(source).replaceAll(m ->
            m.group().startsWith("/") ? m.group().replaceAll("[^\\n]", "") : "0");
    }

    private static void source() throws Exception {
        Path file = Path.of("src", "main", "java", "FetchRope.java");
        String source = Files.readString(file, StandardCharsets.UTF_8);
        check(source.chars().allMatch(c -> c < 128), "a sign beyond 127");
        String bare = bare(source);
        for (String word : new String[] {"throw", "throws", "try", "catch", "finally", "synchronized", "assert", "import", "package", "Exception",
            "Error", "volatile", "transient", "native", "strictfp", "protected", "var", "yield", "record", "sealed", "Object", "Thread", "Random",
            "hashCode", "toString", "equals", "java", "javax"}) {
            check(!Pattern.compile("\\b" + word + "\\b").matcher(bare).find(), "the word " + word);
        }
        for (String sign : new String[] {"->", "::", "@", "Exact("}) check(!bare.contains(sign), "the sign " + sign);
        Matcher library = Pattern.compile("\\b(System|Integer|Long|Math|Arrays|String|StringBuilder|List|ArrayList)\\.(\\w+)").matcher(bare);
        Set<String> allowed = new TreeSet<>(Arrays.asList("System.arraycopy", "Integer.bitCount", "Long.MIN_VALUE", "Math.min", "Math.max", "Math.abs"));
        while (library.find()) check(allowed.contains(library.group()), "the library's " + library.group());
        int at = 0;
        int lines = 0;
        for (String line : bare.split("\n")) {
            at++;
            lines++;
            if (line.matches("    (    )?[a-z].*\\{")) lines = 0;
            if (line.matches("    (    )?\\}")) check(lines <= 60 || line.startsWith("    }"), "a method longer than 60 lines ends in line " + at);
        }
    }

    public static void main(String[] args) throws Exception {
        face();
        shape(FetchRope.class);
        Class<?>[] inside = FetchRope.class.getDeclaredClasses();
        check(inside.length <= 11, inside.length + " classes inside");
        for (Class<?> c : inside) {
            check(Modifier.isStatic(c.getModifiers()) && !Modifier.isPublic(c.getModifiers()), c + " is not static, or is public");
            shape(c);
        }
        source();
        System.out.println("FaceTest: " + wrong + " faults");
        if (wrong != 0) System.exit(1);
    }
}
