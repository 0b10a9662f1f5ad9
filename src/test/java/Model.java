import java.util.ArrayList;
import java.util.Arrays;
import java.util.List;

/**
 * The document told a second time, as slowly and plainly as can be: every row of runs is tried,
 * THE TEXT is worked out anew for each PULL, the KINDS are Java classes. ModelTest holds FetchRope against it.
 */
public final class Model {
    static final int NONE = -1, BAD = -2, STATE = -3, FULL = -4, ABSENT = -5;
    static final int NOTHING = -11, CAST = -12, PLACE = -13, SIZE = -14;
    static final long NO = Long.MIN_VALUE;

    // ---- the sledges, as classes

    static class Sledge implements Cloneable {
        int i, v, load, side, goal, worth;
        int[] row = new int[4];
        List<Integer> trace;

        int kind() { return 0; }
        int weight(int drift, int hour) { return load + drift; }
        int slides(int x) { trace.add(10); return x + i; }
        int pulls(int x) { trace.add(11); return slides(x) - v; }
        int tells(int x) { trace.add(12); return pulls(x) * 2; }

        Sledge copy() {
            try {
                Sledge c = (Sledge) clone();
                c.row = row.clone();
                return c;
            } catch (CloneNotSupportedException e) {
                throw new IllegalStateException(e);
            }
        }
    }

    static class Laden extends Sledge {
        @Override int kind() { return 1; }
        @Override int weight(int drift, int hour) { return super.weight(drift, hour) + v; }
        @Override int pulls(int x) { trace.add(20); return super.pulls(x) ^ 6; }
    }

    static class Empty extends Sledge {
        @Override int kind() { return 2; }
        @Override int weight(int drift, int hour) { return super.weight(drift, hour) / 2; }
        @Override int slides(int x) { trace.add(30); return super.slides(x * 3); }
    }

    static class Braked extends Sledge {
        @Override int kind() { return 3; }
        @Override int weight(int drift, int hour) { return super.weight(drift, hour) - 2 * v; }
        @Override int tells(int x) { trace.add(40); return super.tells(x) + pulls(1); }
    }

    static class Gift extends Laden {
        @Override int kind() { return 4; }
        @Override int weight(int drift, int hour) {
            int w = super.weight(drift, hour);
            return hour % 2 == 1 ? w + w : w;
        }
        @Override int slides(int x) { trace.add(50); return -super.slides(x); }
        @Override int pulls(int x) { trace.add(51); return super.pulls(x + 1); }
    }

    static class Child extends Empty {
        @Override int kind() { return 5; }
        @Override int weight(int drift, int hour) { return hour % 3 == 0 ? v : super.weight(drift, hour); }
        @Override int tells(int x) { trace.add(60); return super.tells(x - i); }
    }

    static class Told extends Braked {
        @Override int kind() { return 6; }
        @Override int weight(int drift, int hour) { return super.weight(drift, hour) + row[hour % 4]; }
        @Override int pulls(int x) { trace.add(70); return super.pulls(x) + super.slides(2); }
        @Override int slides(int x) { trace.add(71); return super.slides(x) ^ v; }
    }

    static final Class<?>[] KINDS = {Sledge.class, Laden.class, Empty.class, Braked.class, Gift.class, Child.class, Told.class};

    static Sledge ofKind(int kind) {
        switch (kind) {
            case 0: return new Sledge();
            case 1: return new Laden();
            case 2: return new Empty();
            case 3: return new Braked();
            case 4: return new Gift();
            case 5: return new Child();
            default: return new Told();
        }
    }

    // ---- all that THE IMAGE keeps

    static final class State {
        List<Sledge> sledges = new ArrayList<>();
        int hour, worn, dusk;
        List<int[]> plan = new ArrayList<>();
        List<int[]> book = new ArrayList<>();
        String hill;

        State copy() {
            State c = new State();
            for (Sledge s : sledges) {
                c.sledges.add(s.copy());
            }
            c.hour = hour;
            c.worn = worn;
            c.dusk = dusk;
            c.plan.addAll(plan);
            c.book.addAll(book);
            c.hill = hill;
            return c;
        }
    }

    State st = new State();
    State saved;
    String text = "";
    int hills;
    List<Integer> trace = new ArrayList<>();
    Object[] tapes = new Object[6];

    boolean has(int s) { return s >= 0 && s < st.sledges.size(); }
    Sledge get(int s) { return st.sledges.get(s); }

    // ---- the hill: which signs may come next is told sign by sign, by a stack machine

    /** The place of the first sign with which no HILL begins so, the end if it ends too early, -1 if it is a HILL. */
    static int fault(String text) {
        String[] words = {"snow ", "slush ", "need ", "rope "};
        int at = 0;
        int clauses = 0;
        while (true) {
            List<String> left = new ArrayList<>(Arrays.asList(words));
            int from = at;
            String found = null;
            while (found == null) {
                if (at >= text.length()) {
                    return at;
                }
                List<String> still = new ArrayList<>();
                for (String w : left) {
                    if (w.charAt(at - from) == text.charAt(at)) {
                        still.add(w);
                    }
                }
                if (still.isEmpty()) {
                    return at;
                }
                at++;
                left = still;
                for (String w : left) {
                    if (w.length() == at - from) {
                        found = w;
                    }
                }
            }
            clauses++;
            boolean falls = found.startsWith("s");
            String state = "number";
            StringBuilder stack = new StringBuilder();
            // number, number1, number2: of the clause; open: an F is due; letter, test, test1, test2: within a TEST; shut: behind ).
            while (true) {
                char c = at < text.length() ? text.charAt(at) : (char) 0xffff;
                boolean digit = c >= '0' && c <= '9';
                if (state.equals("number")) {
                    if (!digit) return at;
                    state = "number1";
                } else if (state.startsWith("number")) {
                    if (digit && state.equals("number1")) {
                        state = "number2";
                    } else if (falls && c == ' ') {
                        state = "open";
                    } else if (!falls && (c == ';' || c == 0xffff)) {
                        break;
                    } else {
                        return at;
                    }
                } else if (state.equals("open")) {
                    if ((c == '(' || c == '!') && stack.length() < 4) {
                        stack.append(c);
                    } else if (c != 0xffff && "skvdlh".indexOf(c) >= 0) {
                        state = "letter";
                    } else {
                        return at;
                    }
                } else if (state.equals("letter")) {
                    if (c != '<' && c != '=' && c != '>') return at;
                    state = "test";
                } else if (state.equals("test")) {
                    if (!digit) return at;
                    state = "test1";
                } else if (digit && state.equals("test1")) {
                    state = "test2";
                } else {
                    // Behind a whole F: every ! that stood ahead of it is at its end.
                    while (stack.length() > 0 && stack.charAt(stack.length() - 1) == '!') {
                        stack.setLength(stack.length() - 1);
                    }
                    if (c == '&' || c == '|') {
                        state = "open";
                    } else if (c == ')' && stack.length() > 0) {
                        stack.setLength(stack.length() - 1);
                        state = "shut";
                    } else if (stack.length() == 0 && (c == ';' || c == 0xffff)) {
                        break;
                    } else {
                        return at;
                    }
                }
                at++;
            }
            if (at >= text.length()) {
                return -1;
            }
            if (clauses == 10) {
                return at;
            }
            at++;
        }
    }

    // ---- an E is split at its outermost | first, then &, then !

    static int outermost(String e, char sign) {
        int deep = 0;
        for (int i = e.length() - 1; i >= 0; i--) {
            char c = e.charAt(i);
            deep += c == ')' ? 1 : c == '(' ? -1 : 0;
            if (deep == 0 && c == sign) {
                return i;
            }
        }
        return -1;
    }

    static boolean holds(String e, Sledge s, int side, int hour) {
        int at = outermost(e, '|');
        if (at >= 0) {
            return holds(e.substring(0, at), s, side, hour) || holds(e.substring(at + 1), s, side, hour);
        }
        at = outermost(e, '&');
        if (at >= 0) {
            return holds(e.substring(0, at), s, side, hour) && holds(e.substring(at + 1), s, side, hour);
        }
        if (e.charAt(0) == '!') {
            return !holds(e.substring(1), s, side, hour);
        }
        if (e.charAt(0) == '(') {
            return holds(e.substring(1, e.length() - 1), s, side, hour);
        }
        int n = Integer.parseInt(e.substring(2));
        int is;
        switch (e.charAt(0)) {
            case 's': is = s.i; break;
            case 'k': is = s.kind(); break;
            case 'v': is = s.v; break;
            case 'd': is = side; break;
            case 'l': is = s.load / 10; break;
            default: is = hour % 12;
        }
        return e.charAt(1) == '<' ? is < n : e.charAt(1) == '=' ? is == n : is > n;
    }

    String[] clauses() { return st.hill == null ? new String[0] : st.hill.split(";"); }

    int pull(Sledge s, int side, int hour) {
        int drift = 0;
        for (String c : clauses()) {
            String[] parts = c.split(" ");
            if (parts[0].equals("snow") && holds(parts[2], s, side, hour)) {
                drift += Integer.parseInt(parts[1]);
            }
            if (parts[0].equals("slush") && holds(parts[2], s, side, hour)) {
                drift -= Integer.parseInt(parts[1]);
            }
        }
        int w = s.weight(drift, hour);
        return w < 0 ? 0 : w;
    }

    int last(String word, int without) {
        int n = without;
        for (String c : clauses()) {
            if (c.startsWith(word)) {
                n = Integer.parseInt(c.split(" ")[1]);
            }
        }
        return n;
    }

    int need() { return last("need", 1); }
    int rope() { return 10 * last("rope", 99); }

    boolean fits(int a, int b) { return (a - b >= need() || b - a >= need()) && a + b <= rope(); }

    boolean goes(int[] sides, int hour, int a, int b) {
        return sides[a] != sides[b] && fits(pull(get(a), sides[a], hour), pull(get(b), sides[b], hour));
    }

    int[] sides() {
        int[] r = new int[st.sledges.size()];
        for (int i = 0; i < r.length; i++) {
            r[i] = get(i).side;
        }
        return r;
    }

    int gain(int[] sides, int without) {
        int g = 0;
        for (int i = 0; i < sides.length; i++) {
            if (i != without && sides[i] == get(i).goal) {
                g += get(i).worth;
            }
        }
        return g;
    }

    static int bits(int[] sides) {
        int b = 0;
        for (int i = 0; i < sides.length; i++) {
            b += sides[i] << i;
        }
        return b;
    }

    int[] swapped(int[] sides, int a, int b) {
        int[] r = sides.clone();
        r[a] = 1 - r[a];
        r[b] = 1 - r[b];
        return r;
    }

    static final class Row {
        List<Integer> pairs;
        int[] sides;
        int worn;
    }

    /** All rows of n HOURS, in their order. */
    List<Row> rows(int n, boolean idle, int without) {
        List<Row> all = new ArrayList<>();
        rows(n, 0, idle, without, sides(), 0, new ArrayList<>(), all);
        return all;
    }

    private void rows(int n, int h, boolean idle, int without, int[] sides, int worn, List<Integer> sofar, List<Row> all) {
        if (h == n) {
            Row r = new Row();
            r.pairs = new ArrayList<>(sofar);
            r.sides = sides;
            r.worn = worn;
            all.add(r);
            return;
        }
        int hour = st.hour + h;
        for (int a = 0; a < sides.length; a++) {
            for (int b = a + 1; b < sides.length; b++) {
                if (a != without && b != without && goes(sides, hour, a, b)) {
                    sofar.add(10 * a + b);
                    int more = pull(get(a), sides[a], hour) + pull(get(b), sides[b], hour);
                    rows(n, h + 1, idle, without, swapped(sides, a, b), worn + more, sofar, all);
                    sofar.remove(sofar.size() - 1);
                }
            }
        }
        if (idle) {
            sofar.add(99);
            rows(n, h + 1, idle, without, sides, worn, sofar, all);
            sofar.remove(sofar.size() - 1);
        }
    }

    Row bestRow(int n, int without) {
        Row best = null;
        for (Row r : rows(n, true, without)) {
            if (best == null || gain(r.sides, without) > gain(best.sides, without)
                    || gain(r.sides, without) == gain(best.sides, without) && r.worn < best.worn) {
                best = r;
            }
        }
        return best;
    }

    // ---- the face

    public int sledge(int kind, int v, int load, int side, int goal, int worth) {
        if (kind < 0 || kind > 6) return NONE;
        if (v < 0 || v > 9 || load < 0 || load > 99 || side < 0 || side > 1 || goal < 0 || goal > 1 || worth < 0 || worth > 99) return BAD;
        if (st.sledges.size() == 7) return FULL;
        Sledge s = ofKind(kind);
        s.i = st.sledges.size();
        s.v = v;
        s.load = load;
        s.side = side;
        s.goal = goal;
        s.worth = worth;
        st.sledges.add(s);
        return s.i;
    }

    public int of(int sledge, int what) {
        if (!has(sledge) || what < 0 || what > 6) return NONE;
        Sledge s = get(sledge);
        return new int[] {s.kind(), s.v, s.load, s.side, s.goal, s.worth, pull(s, s.side, st.hour)}[what];
    }

    public int set(int sledge, int what, int n) {
        if (!has(sledge) || what < 0 || what > 1) return NONE;
        if (n < 0 || n > (what == 0 ? 99 : 1)) return BAD;
        Sledge s = get(sledge);
        int old = what == 0 ? s.load : s.goal;
        if (what == 0) s.load = n; else s.goal = n;
        return old;
    }

    public int row(int sledge, int part, int n) {
        if (!has(sledge) || part < 0 || part > 3) return NONE;
        if (n < 0 || n > 9) return BAD;
        if (!(get(sledge) instanceof Told)) return STATE;
        int old = get(sledge).row[part];
        get(sledge).row[part] = n;
        return old;
    }

    public int feed(int sign) {
        if (sign < 0 || sign > 127) return BAD;
        if (text.length() == 100) return FULL;
        text += (char) sign;
        return text.length();
    }

    public int hill() {
        if (hills == 6) return FULL;
        String t = text;
        text = "";
        int f = fault(t);
        if (f >= 0) return -10 - f;
        st.hill = t;
        return hills++;
    }

    public int told(int what) {
        switch (what) {
            case 0: return st.hour;
            case 1: return st.worn;
            case 2: return gain(sides(), -1);
            case 3: return need();
            case 4: return rope();
            case 5: return bits(sides());
            default: return NONE;
        }
    }

    public int run(int one, int other) {
        if (!has(one) || !has(other)) return NONE;
        if (one == other) return BAD;
        if (get(one).side == get(other).side || st.hour == 9999) return STATE;
        boolean g = goes(sides(), st.hour, one, other);
        if (g) {
            st.worn += pull(get(one), get(one).side, st.hour) + pull(get(other), get(other).side, st.hour);
            if (st.worn > 9999) st.worn = 9999;
            get(one).side = 1 - get(one).side;
            get(other).side = 1 - get(other).side;
        }
        st.hour++;
        return g ? 1 : 0;
    }

    public int hour() { return st.hour == 9999 ? STATE : ++st.hour; }

    public int with(int sledge) {
        if (!has(sledge)) return NONE;
        int b = 0;
        for (int i = 0; i < st.sledges.size(); i++) {
            if (i != sledge && goes(sides(), st.hour, sledge, i)) b |= 1 << i;
        }
        return b;
    }

    public int ballast(int one, int other, int what) {
        if (!has(one) || !has(other) || what < 0 || what > 1) return NONE;
        if (one == other) return BAD;
        if (get(one).side == get(other).side) return ABSENT;
        int a = pull(get(one), get(one).side, st.hour);
        int b = pull(get(other), get(other).side, st.hour);
        int onOne = 100;
        int onOther = 100;
        for (int w = 99; w >= 0; w--) {
            if (fits(a + w, b)) onOne = w;
            if (fits(a, b + w)) onOther = w;
        }
        if (onOne == 100 && onOther == 100) return ABSENT;
        if (what == 0) return Math.min(onOne, onOther);
        return onOne <= onOther ? one : other;
    }

    public int best(int n, int what) {
        if (!(what == 0 || what == 1 || what >= 10 && what <= 13)) return NONE;
        if (n < 0 || n > 4) return BAD;
        if (what >= 10 && what - 10 >= n) return ABSENT;
        Row r = bestRow(n, -1);
        return what == 0 ? gain(r.sides, -1) : what == 1 ? r.worn : r.pairs.get(what - 10);
    }

    public int never() {
        int b = 0;
        for (int i = 0; i < st.sledges.size(); i++) {
            boolean some = false;
            for (int h = 0; h <= 11; h++) {
                for (int j = 0; j < st.sledges.size(); j++) {
                    some |= i != j && goes(sides(), st.hour + h, i, j);
                }
            }
            if (!some) b |= 1 << i;
        }
        return b;
    }

    public int when(int one, int other) {
        if (!has(one) || !has(other)) return NONE;
        if (one == other) return BAD;
        for (int h = 0; h < 60; h++) {
            if (goes(sides(), st.hour + h, one, other)) return h;
        }
        return ABSENT;
    }

    public int can(int sledge, int n) {
        if (!has(sledge)) return NONE;
        if (n < 0 || n > 3) return BAD;
        for (int k = 0; k <= n; k++) {
            for (Row r : rows(k, false, -1)) {
                if (r.sides[sledge] != get(sledge).side) return 1;
            }
        }
        return 0;
    }

    public int dusk(int bits) {
        if (bits < 0 || bits >= 1 << st.sledges.size()) return BAD;
        int old = st.dusk;
        st.dusk = bits;
        return old;
    }

    public int runs(int n, int what) {
        if (what < 0 || what > 1) return NONE;
        if (n < 0 || n > 3) return BAD;
        int ways = 0;
        int first = ABSENT;
        for (Row r : rows(n, false, -1)) {
            if (bits(r.sides) == st.dusk) {
                ways++;
                if (first == ABSENT) first = n == 0 ? 99 : r.pairs.get(0);
            }
        }
        return what == 0 ? ways : first;
    }

    public int two(int what) {
        if (what < 0 || what > 1) return -1002;
        int size = st.sledges.size();
        int ways = 0;
        int most = -1001;
        for (int a = 0; a < size; a++) {
            for (int b = a + 1; b < size; b++) {
                for (int c = a + 1; c < size; c++) {
                    for (int d = c + 1; d < size; d++) {
                        if (c == b || d == b || !goes(sides(), st.hour, a, b) || !goes(sides(), st.hour, c, d)) continue;
                        ways++;
                        most = Math.max(most, gain(swapped(swapped(sides(), a, b), c, d), -1) - gain(sides(), -1));
                    }
                }
            }
        }
        return what == 0 ? ways : most;
    }

    public int price(int sledge) {
        if (!has(sledge)) return -1001;
        return gain(bestRow(2, -1).sides, -1) - gain(bestRow(2, sledge).sides, sledge);
    }

    public int plan(int one, int other) {
        if (one == -1) {
            st.plan.clear();
            return 0;
        }
        if (!has(one) || !has(other)) return NONE;
        if (one == other) return BAD;
        if (st.plan.size() == 12) return FULL;
        st.plan.add(new int[] {one, other});
        return st.plan.size();
    }

    public int wear(int what) {
        if (what < 0 || what > 2) return NONE;
        State kept = st.copy();
        int not = 0;
        int first = ABSENT;
        for (int i = 0; i < kept.plan.size(); i++) {
            int[] p = kept.plan.get(i);
            boolean like = get(p[0]).side == get(p[1]).side;
            if (like) st.hour++;
            if (like || run(p[0], p[1]) != 1) {
                not++;
                if (first == ABSENT) first = i;
            }
        }
        int worn = st.worn;
        st = kept;
        return what == 0 ? worn : what == 1 ? not : first;
    }

    static long lowest(int a, int b, int part) {
        for (int d = Math.max(a, b); d > 1; d--) {
            if (a % d == 0 && b % d == 0) return part == 0 ? a / d : b / d;
        }
        return part == 0 ? a : b;
    }

    public long odds(int one, int other, int part) {
        if (part < 0 || part > 1 || !has(one) || !has(other) || get(one).side == get(other).side) return NO;
        int good = 0;
        for (int w = 0; w < 10; w++) {
            if (fits(pull(get(one), get(one).side, st.hour) + w, pull(get(other), get(other).side, st.hour))) good++;
        }
        return lowest(good, 10, part);
    }

    public long mean(int part) {
        if (part < 0 || part > 1 || st.sledges.isEmpty()) return NO;
        int sum = 0;
        for (Sledge s : st.sledges) {
            sum += pull(s, s.side, st.hour);
        }
        return lowest(sum, st.sledges.size(), part);
    }

    public int book(int sledge, int n) {
        if (sledge == -1) {
            st.book.clear();
            return 0;
        }
        if (!has(sledge)) return NONE;
        if (n < 0 || n > 999) return BAD;
        if (st.book.size() == 12) return FULL;
        st.book.add(new int[] {sledge, n});
        return st.book.size();
    }

    public int looked() {
        for (int i = 0; i < st.book.size(); i++) {
            if (of(st.book.get(i)[0], 6) != st.book.get(i)[1]) return i;
        }
        return ABSENT;
    }

    public int judge(int tape, int i) {
        if (tape < 0 || tape > 5) return NONE;
        if (tapes[tape] != null && !(tapes[tape] instanceof byte[])) return CAST;
        if (st.sledges.isEmpty()) return ABSENT;
        if (tapes[tape] == null || i < 0) return 100;
        byte[] row = (byte[]) tapes[tape];
        for (int s = 0; s < st.sledges.size(); s++) {
            if ((long) i + s >= row.length) return 100 + s;
            if (row[i + s] != get(s).side) return s;
        }
        return ABSENT;
    }

    public int image() {
        saved = st.copy();
        return st.sledges.size();
    }

    public int undo() {
        if (saved == null) return STATE;
        st = saved.copy();
        return st.sledges.size();
    }

    public int act(int sledge, int act, int x) {
        trace.clear();
        if (!has(sledge) || act < 0 || act > 2) return 0;
        Sledge s = get(sledge);
        s.trace = trace;
        return act == 0 ? s.slides(x) : act == 1 ? s.pulls(x) : s.tells(x);
    }

    public int trace(int i) { return i < 0 || i >= trace.size() || i >= 20 ? NONE : trace.get(i); }

    public int taken(int sledge, int k) {
        if (k < 0 || k > 6) return BAD;
        if (!has(sledge)) return NOTHING;
        return KINDS[k].isInstance(get(sledge)) ? get(sledge).kind() : CAST;
    }

    public int count(int what) {
        if (what < 0 || what > 5) return BAD;
        return new int[] {st.sledges.size(), hills, st.plan.size(), st.book.size(), text.length(), trace.size()}[what];
    }

    public int tape(int tape, int sort, int n) {
        if (tape < 0 || tape > 5) return NONE;
        if (sort == -1) {
            tapes[tape] = null;
            return 1;
        }
        if (sort < 0 || sort > 4 || n > 60) return BAD;
        if (n < 0) return SIZE;
        switch (sort) {
            case 0: tapes[tape] = new byte[n]; break;
            case 1: tapes[tape] = new short[n]; break;
            case 2: tapes[tape] = new int[n]; break;
            case 3: tapes[tape] = new long[n]; break;
            default: tapes[tape] = new boolean[n];
        }
        return 1;
    }

    public int item(int tape, int i, long v) {
        if (tape < 0 || tape > 5) return NONE;
        Object t = tapes[tape];
        if (t == null) return NOTHING;
        if (i < 0 || i >= java.lang.reflect.Array.getLength(t)) return PLACE;
        if (t instanceof byte[]) ((byte[]) t)[i] = (byte) v;
        if (t instanceof short[]) ((short[]) t)[i] = (short) v;
        if (t instanceof int[]) ((int[]) t)[i] = (int) v;
        if (t instanceof long[]) ((long[]) t)[i] = v;
        if (t instanceof boolean[]) ((boolean[]) t)[i] = v != 0;
        return 1;
    }

    public long read(int tape, int i) {
        if (tape < 0 || tape > 5 || tapes[tape] == null) return NO;
        Object t = tapes[tape];
        if (i < 0 || i >= java.lang.reflect.Array.getLength(t)) return NO;
        if (t instanceof boolean[]) return ((boolean[]) t)[i] ? 1 : 0;
        return java.lang.reflect.Array.getLong(t, i);
    }

    public int shift(int tape, int i, int other, int j, int n) {
        if (tape < 0 || tape > 5 || other < 0 || other > 5) return NONE;
        if (tapes[tape] == null || tapes[other] == null) return NOTHING;
        try {
            System.arraycopy(tapes[tape], i, tapes[other], j, n);
        } catch (ArrayStoreException e) {
            return CAST;
        } catch (IndexOutOfBoundsException e) {
            return PLACE;
        }
        return n;
    }
}
