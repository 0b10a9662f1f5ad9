import java.io.DataInputStream;
import java.io.InputStream;
import java.lang.reflect.Constructor;
import java.lang.reflect.Field;
import java.lang.reflect.Method;
import java.lang.reflect.Modifier;
import java.nio.charset.StandardCharsets;
import java.nio.file.Files;
import java.nio.file.Path;
import java.util.Arrays;
import java.util.Set;
import java.util.TreeSet;
import java.util.regex.Matcher;
import java.util.regex.Pattern;

/** The public face to the letter, and of LANGUAGE.md what can be seen by reflection and in the source. */
public final class FaceTest {
    private static final String[] FACE = {
        "int sledge(int,int,int,int,int,int)", "int of(int,int)", "int set(int,int,int)", "int row(int,int,int)", "int feed(int)",
        "int hill()", "int told(int)", "int run(int,int)", "int hour()", "int with(int)", "int ballast(int,int,int)", "int best(int,int)",
        "int never()", "int when(int,int)", "int can(int,int)", "int dusk(int)", "int runs(int,int)", "int two(int)", "int price(int)",
        "int plan(int,int)", "int wear(int)", "long odds(int,int,int)", "long mean(int)", "int book(int,int)", "int looked()",
        "int judge(int,int)", "int image()", "int undo()", "int act(int,int,int)", "int trace(int)", "int taken(int,int)", "int count(int)",
        "int tape(int,int,int)", "int item(int,int,long)", "long read(int,int)", "int shift(int,int,int,int,int)",
    };
    private static final Set<String> CONSTANT = Set.of("int", "long", "boolean", "char", "String", "int[]", "long[]", "char[]", "byte[]");
    private static final Set<String> LIBRARY = Set.of("java/lang/Object.<init>", "java/lang/String.charAt", "java/lang/String.length",
        "java/lang/String.indexOf", "java/lang/Math.min", "java/lang/Math.max", "java/lang/Math.abs", "java/lang/Integer.bitCount",
        "java/lang/System.arraycopy");
    private static int wrong;

    private static void check(boolean right, String what) {
        if (!right) {
            wrong++;
            System.out.println("FaceTest: " + what);
        }
    }

    private static String told(Method m) {
        StringBuilder s = new StringBuilder(m.getReturnType() + " " + m.getName() + "(");
        for (Class<?> p : m.getParameterTypes()) s.append(s.charAt(s.length() - 1) == '(' ? "" : ",").append(p);
        return s.append(")").toString();
    }

    private static void face() throws Exception {
        Set<String> due = new TreeSet<>(Arrays.asList(FACE));
        Set<String> is = new TreeSet<>();
        Set<String> names = new TreeSet<>();
        for (Method m : FetchRope.class.getDeclaredMethods()) {
            if (!Modifier.isPrivate(m.getModifiers())) {
                is.add(told(m));
                names.add(m.getName());
                check(m.getModifiers() == Modifier.PUBLIC, m + " is not public alone");
                check(m.getExceptionTypes().length == 0, m + " tells exceptions");
            }
        }
        check(is.equals(due), "the methods are " + is);
        for (Method m : FetchRope.class.getDeclaredMethods()) {
            check(!Modifier.isPrivate(m.getModifiers()) || !names.contains(m.getName()), m + " bears a public name");
        }
        Constructor<?>[] made = FetchRope.class.getDeclaredConstructors();
        check(made.length == 1 && made[0].getModifiers() == Modifier.PUBLIC && made[0].getParameterCount() == 0, "the constructor");
        check(FetchRope.class.getModifiers() == (Modifier.PUBLIC | Modifier.FINAL), "the class is not public final");
        Set<String> constants = new TreeSet<>();
        for (Field f : FetchRope.class.getDeclaredFields()) {
            if (Modifier.isPrivate(f.getModifiers())) continue;
            check(f.getModifiers() == (Modifier.PUBLIC | Modifier.STATIC | Modifier.FINAL), f + " is no constant");
            constants.add(f.getType() + " " + f.getName() + " " + f.get(null));
        }
        check(constants.toString().equals("[int BAD -2, int FULL -4, int NONE -1, int STATE -3, long NO " + Long.MIN_VALUE + "]"), "the constants are " + constants);
    }

    private static void shape(Class<?> c) {
        int fields = 0;
        for (Field f : c.getDeclaredFields()) {
            check(!Modifier.isStatic(f.getModifiers()) || Modifier.isFinal(f.getModifiers()), f + " is static and not final");
            check(!Modifier.isStatic(f.getModifiers()) || CONSTANT.contains(f.getType().getSimpleName()), f + " is no constant of rule 5");
            fields += Modifier.isStatic(f.getModifiers()) ? 0 : 1;
        }
        check(fields <= 20, c + " has " + fields + " fields");
        for (Method m : c.getDeclaredMethods()) {
            check(m.getParameterCount() <= 7, m + " has too many parameters");
            check(!m.isSynthetic(), m + " is made by the compiler");
        }
    }

    /** Comments, texts and signs go, so that only the program's own words are looked at. */
    private static String bare(String source) {
        return Pattern.compile("/\\*.*?\\*/|//[^\\n]*|\"(\\\\.|[^\"\\\\])*\"|'(\\\\.|[^'\\\\])'", Pattern.DOTALL).matcher(source).replaceAll(m ->
            m.group().startsWith("/") ? m.group().replaceAll("[^\\n]", "") : "0");
    }

    private static void source() throws Exception {
        Path file = Path.of("src", "main", "java", "FetchRope.java");
        String source = Files.readString(file, StandardCharsets.UTF_8);
        check(source.chars().allMatch(c -> c < 128), "a sign beyond 127");
        String bare = bare(source);
        for (String word : new String[] {"throw", "throws", "try", "catch", "finally", "synchronized", "assert", "import", "package", "Exception",
            "Error", "volatile", "transient", "native", "strictfp", "protected", "var", "yield", "record", "sealed", "Object", "Thread", "Random",
            "hashCode", "toString", "equals", "java", "javax"}) {
            check(!Pattern.compile("\\b" + word + "\\b").matcher(bare).find(), "the word " + word);
        }
        for (String sign : new String[] {"->", "::", "@", "Exact("}) check(!bare.contains(sign), "the sign " + sign);
        Matcher library = Pattern.compile("\\b(System|Integer|Long|Math|Arrays|String|StringBuilder|List|ArrayList)\\.(\\w+)").matcher(bare);
        Set<String> allowed = new TreeSet<>(Arrays.asList("System.arraycopy", "Integer.bitCount", "Long.MIN_VALUE", "Math.min", "Math.max", "Math.abs"));
        while (library.find()) check(allowed.contains(library.group()), "the library's " + library.group());
        int at = 0;
        int lines = 0;
        for (String line : bare.split("\n")) {
            at++;
            lines++;
            if (line.matches("    (    )?[a-z].*\\{")) lines = 0;
            if (line.matches("    (    )?\\}")) check(lines <= 60 || line.startsWith("    }"), "a method longer than 60 lines ends in line " + at);
        }
    }

    /** What a compiled class calls or reads of other classes, as its pool of constants tells; a line for each. */
    private static Set<String> references(Class<?> c) throws Exception {
        String name = c.getName() + ".class";
        try (InputStream bytes = FaceTest.class.getResourceAsStream(name); DataInputStream in = new DataInputStream(bytes)) {
            in.readLong();
            int size = in.readUnsignedShort();
            String[] text = new String[size];
            int[][] part = new int[size][];
            int[] tag = new int[size];
            for (int i = 1; i < size; i++) {
                tag[i] = in.readUnsignedByte();
                switch (tag[i]) {
                    case 1: text[i] = in.readUTF(); break;
                    case 3: case 4: in.readInt(); break;
                    case 5: case 6: in.readLong(); i++; break;
                    case 7: case 8: part[i] = new int[] {in.readUnsignedShort()}; break;
                    case 9: case 10: case 11: case 12: part[i] = new int[] {in.readUnsignedShort(), in.readUnsignedShort()}; break;
                    default: throw new IllegalStateException(c + " has a constant of sort " + tag[i] + ", as lambdas and joined texts have");
                }
            }
            Set<String> told = new TreeSet<>();
            for (int i = 1; i < size; i++) {
                if (tag[i] < 9 || tag[i] > 11) continue;
                String owner = text[part[part[i][0]][0]];
                String member = text[part[part[i][1]][0]];
                if (!owner.startsWith("FetchRope")) told.add(owner + "." + member);
            }
            return told;
        }
    }

    /** Rule 4, of calls on texts and arrays too, that the source does not tell apart from the class's own. */
    private static void library(Class<?> c) throws Exception {
        for (String reference : references(c)) check(LIBRARY.contains(reference), c + " uses " + reference);
    }

    public static void main(String[] args) throws Exception {
        face();
        shape(FetchRope.class);
        library(FetchRope.class);
        Class<?>[] inside = FetchRope.class.getDeclaredClasses();
        check(inside.length <= 11, inside.length + " classes inside");
        for (Class<?> c : inside) {
            check(Modifier.isStatic(c.getModifiers()) && !Modifier.isPublic(c.getModifiers()), c + " is not static, or is public");
            shape(c);
            library(c);
        }
        source();
        System.out.println("FaceTest: " + wrong + " faults");
        if (wrong != 0) System.exit(1);
    }
}
