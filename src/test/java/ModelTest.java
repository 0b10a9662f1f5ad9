import java.lang.reflect.InvocationTargetException;
import java.lang.reflect.Method;
import java.lang.reflect.Modifier;
import java.util.ArrayList;
import java.util.Arrays;
import java.util.Comparator;
import java.util.List;
import java.util.Random;

/** Long rows of calls, drawn from a fixed seed, on FetchRope and on the Model: every answer is the same. */
public final class ModelTest {
    private static final int[] EDGES = {Integer.MIN_VALUE, Integer.MIN_VALUE + 1, -2, -1, 7, 8, 9, 10, 11, 13, 14, 59, 60, 61,
        99, 100, 101, 127, 128, 999, 1000, Integer.MAX_VALUE - 1, Integer.MAX_VALUE};

    private static final List<Method> CALLS = new ArrayList<>();
    private static final List<Method> TWINS = new ArrayList<>();
    private static Random random;
    private static int compared;
    private static int wrong;

    private static int below(int n) { return random.nextInt(n); }

    private static String either(int nested) {
        StringBuilder e = new StringBuilder(both(nested));
        while (below(4) == 0) e.append('|').append(both(nested));
        return e.toString();
    }

    private static String both(int nested) {
        StringBuilder e = new StringBuilder(single(nested));
        while (below(4) == 0) e.append('&').append(single(nested));
        return e.toString();
    }

    private static String single(int nested) {
        int most = below(20) == 0 ? 5 : 4;
        if (nested < most && below(3) == 0) {
            return below(2) == 0 ? "!" + single(nested + 1) : "(" + either(nested + 1) + ")";
        }
        return "" + "skvdlh".charAt(below(6)) + "<=>".charAt(below(3)) + (below(8) == 0 ? number() : "" + below(7));
    }

    private static String number() {
        int n = below(100);
        return n < 10 && below(2) == 0 ? "0" + n : "" + n;
    }

    private static String clause() {
        switch (below(5)) {
            case 0: return "need " + (below(3) == 0 ? number() : "" + below(10));
            case 1: return "rope " + number();
            case 2: return "slush " + number() + " " + either(0);
            default: return "snow " + number() + " " + either(0);
        }
    }

    private static String hillText() {
        int clauses = below(12) == 0 ? 1 + below(12) : 1 + below(4);
        StringBuilder t = new StringBuilder();
        for (int i = 0; i < clauses; i++) {
            String next = clauses > 6 ? (below(2) == 0 ? "need " : "rope ") + below(100) : clause();
            if (i > 0 && t.length() + next.length() + 1 > 100) break;
            t.append(i == 0 ? "" : ";").append(next);
        }
        if (below(3) == 0) {
            int at = below(t.length() + 1);
            switch (below(4)) {
                case 0: t.setLength(at); break;
                case 1: t.insert(at, "snowluhedrp;!()&|<=>0123456789skvdlh qx".charAt(below(39))); break;
                case 2: if (at < t.length()) t.deleteCharAt(at); break;
                default: if (at < t.length()) t.setCharAt(at, (char) below(128));
            }
        }
        return t.length() > 104 ? t.substring(0, 104) : t.toString();
    }

    private static boolean call(FetchRope x, Model m, int which, Object[] args, StringBuilder story) {
        Object got;
        Object due;
        Method call = CALLS.get(which);
        String text = call.getName() + Arrays.toString(args);
        try {
            due = TWINS.get(which).invoke(m, args);
            got = call.invoke(x, args);
        } catch (InvocationTargetException e) {
            got = e.getCause();
            due = "no exception";
        } catch (IllegalAccessException e) {
            throw new IllegalStateException(e);
        }
        compared++;
        story.append(text).append(" = ").append(got).append('\n');
        if (!got.equals(due)) {
            wrong++;
            System.out.println(story + "due is " + due);
            return false;
        }
        return true;
    }

    private static int indexOf(String name) {
        for (int i = 0; i < CALLS.size(); i++) {
            if (CALLS.get(i).getName().equals(name)) return i;
        }
        throw new IllegalStateException(name);
    }

    private static Object[] drawn(Method call, boolean wild) {
        Class<?>[] types = call.getParameterTypes();
        Object[] args = new Object[types.length];
        for (int i = 0; i < types.length; i++) {
            int n = wild && below(3) == 0 ? EDGES[below(EDGES.length)] : below(5) == 0 ? below(12) : below(7);
            args[i] = types[i] == long.class ? (Object) (below(2) == 0 ? random.nextLong() : (long) n) : (Object) n;
        }
        if (!wild || below(2) == 0) tame(call.getName(), args);
        return args;
    }

    /** Makes an answer other than a refusal likelier. */
    private static void tame(String name, Object[] args) {
        switch (name) {
            case "sledge":
                for (int i = 0; i < 6; i++) args[i] = new int[] {below(7), below(10), below(100), below(2), below(2), below(3) == 0 ? 10 : below(100)}[i];
                break;
            case "set": args[1] = below(2); args[2] = below((int) args[1] == 0 ? 100 : 2); break;
            case "row": args[1] = below(4); args[2] = below(10); break;
            case "dusk": args[0] = below(128); break;
            case "best": args[0] = below(5); args[1] = new int[] {0, 1, 10, 11, 12, 13}[below(6)]; break;
            case "can": args[1] = below(4); break;
            case "runs": args[0] = below(4); args[1] = below(2); break;
            case "ballast": case "odds": args[2] = below(2); break;
            case "two": case "mean": args[0] = below(2); break;
            case "wear": args[0] = below(3); break;
            case "act": args[1] = below(3); args[2] = below(3) == 0 ? random.nextInt() : below(40); break;
            case "trace": args[0] = below(14); break;
            case "count": case "told": args[0] = below(6); break;
            case "judge": args[0] = below(2); args[1] = below(3); break;
            case "tape": args[1] = below(3) == 0 ? 0 : below(6) - 1; args[2] = below(62); break;
            case "item": if (below(2) == 0) { args[0] = below(2); args[2] = (long) below(2); } break;
            default:
        }
    }

    private static void oneRun(long seed) {
        random = new Random(seed);
        FetchRope x = new FetchRope();
        Model m = new Model();
        StringBuilder story = new StringBuilder("seed " + seed + "\n");
        int left = 500;
        int sledges = below(8);
        boolean likeTwins = below(4) == 0;
        Object[] twin = null;
        for (int i = 0; i < sledges; i++) {
            Object[] args = drawn(CALLS.get(indexOf("sledge")), false);
            if (likeTwins && twin != null) {
                Object side = args[3];
                args = twin.clone();
                args[3] = side;
            }
            twin = args;
            if (!call(x, m, indexOf("sledge"), args, story)) return;
            left--;
        }
        boolean wild = below(3) == 0;
        while (left > 0) {
            if (below(40) == 0) {
                String t = hillText();
                for (int i = 0; i < t.length() && left > 0; i++, left--) {
                    if (!call(x, m, indexOf("feed"), new Object[] {(int) t.charAt(i)}, story)) return;
                }
                if (!call(x, m, indexOf("hill"), new Object[0], story)) return;
                left--;
            }
            int which = below(CALLS.size());
            String name = CALLS.get(which).getName();
            if (name.equals("feed") && below(5) != 0 || name.equals("undo") && below(3) != 0 || name.equals("sledge") && below(3) != 0) continue;
            if (!call(x, m, which, drawn(CALLS.get(which), wild), story)) return;
            left--;
        }
    }

    /** THE TEXT alone: many more texts than the long runs read. */
    private static void texts(long seed) {
        random = new Random(seed);
        FetchRope x = new FetchRope();
        Model m = new Model();
        StringBuilder story = new StringBuilder("texts, seed " + seed + "\n");
        for (int k = 0; k < 8; k++) {
            String t = hillText();
            for (int i = 0; i < t.length(); i++) {
                if (!call(x, m, indexOf("feed"), new Object[] {(int) t.charAt(i)}, story)) return;
            }
            if (!call(x, m, indexOf("hill"), new Object[0], story)) return;
        }
    }

    public static void main(String[] args) throws Exception {
        for (Method method : FetchRope.class.getDeclaredMethods()) {
            if (Modifier.isPublic(method.getModifiers())) CALLS.add(method);
        }
        // getDeclaredMethods has no order of its own; the draws must not hang on it.
        CALLS.sort(Comparator.comparing(Method::getName));
        for (Method method : CALLS) TWINS.add(Model.class.getMethod(method.getName(), method.getParameterTypes()));
        int runs = args.length > 0 ? Integer.parseInt(args[0]) : 300;
        for (int seed = 0; seed < runs && wrong < 3; seed++) oneRun(seed);
        for (int seed = 0; seed < 10 * runs && wrong < 3; seed++) texts(seed);
        System.out.println("ModelTest: " + compared + " answers compared, " + wrong + " not as due");
        if (wrong != 0 || CALLS.size() != 36) System.exit(1);
    }
}
