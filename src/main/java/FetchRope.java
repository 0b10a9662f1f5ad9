/** Sledges on the two sides of a hill, that fetch each other by a rope over its top. */
public final class FetchRope {
    public static final int NONE = -1, BAD = -2, STATE = -3, FULL = -4;
    public static final long NO = Long.MIN_VALUE;

    /** What is asked for is not there, though the question was in order. */
    private static final int ABSENT = -5;
    private static final int NOTHING = -11, CAST = -12, PLACE = -13, SIZE = -14;
    /** GAIN itself may be told as any small number, so its refusals lie far below. */
    private static final int NO_GAIN = -1001, NO_GAIN_ASKED = -1002;

    private static final int MOST_SLEDGES = 7, MOST_HILLS = 6, MOST_ROWS = 12;
    private static final int MOST_COUNTED = 9999;

    private static final int SLEDGE = 0, LADEN = 1, EMPTY = 2, BRAKED = 3, GIFT = 4, CHILD = 5, TOLD = 6;
    /** The KIND above each KIND; -1 above the top one. */
    private static final int[] ABOVE = {-1, SLEDGE, SLEDGE, SLEDGE, LADEN, EMPTY, BRAKED};

    private final Day day;
    private final Day saved;
    private boolean imageTaken;
    private final Text text = new Text();
    private final Hill[] hills = new Hill[MOST_HILLS];
    private int hillCount;
    private final Outlook outlook = new Outlook();
    private final Acts acts = new Acts();
    private final Tape[] tapes = new Tape[Tape.COUNT];

    public FetchRope() {
        Hill bare = new Hill();
        day = new Day(bare);
        saved = new Day(bare);
        for (int i = 0; i < MOST_HILLS; i++) {
            hills[i] = new Hill();
        }
        for (int i = 0; i < Tape.COUNT; i++) {
            tapes[i] = new Tape();
        }
    }

    // ---- sledges, hills

    public int sledge(int kind, int v, int load, int side, int goal, int worth) {
        if (!within(kind, TOLD)) {
            return NONE;
        }
        if (!within(v, 9) || !within(load, 99) || !within(side, 1) || !within(goal, 1) || !within(worth, 99)) {
            return BAD;
        }
        if (day.count >= MOST_SLEDGES) {
            return FULL;
        }
        return day.add(kind, v, load, side, goal, worth);
    }

    public int of(int sledge, int what) {
        if (!day.has(sledge)) {
            return NONE;
        }
        switch (what) {
            case 0: return day.kind[sledge];
            case 1: return day.v[sledge];
            case 2: return day.load[sledge];
            case 3: return day.sideOf(sledge);
            case 4: return day.goals >> sledge & 1;
            case 5: return day.worth[sledge];
            case 6: return day.pullNow(sledge);
            default: return NONE;
        }
    }

    public int set(int sledge, int what, int n) {
        if (!day.has(sledge) || !within(what, 1)) {
            return NONE;
        }
        if (!within(n, what == 0 ? 99 : 1)) {
            return BAD;
        }
        return what == 0 ? day.changeLoad(sledge, n) : day.changeGoal(sledge, n);
    }

    public int row(int sledge, int part, int n) {
        if (!day.has(sledge) || !within(part, Day.PARTS - 1)) {
            return NONE;
        }
        if (!within(n, 9)) {
            return BAD;
        }
        if (day.kind[sledge] != TOLD) {
            return STATE;
        }
        int place = sledge * Day.PARTS + part;
        int old = day.rows[place];
        day.rows[place] = n;
        return old;
    }

    public int feed(int sign) {
        if (!within(sign, 127)) {
            return BAD;
        }
        return text.add(sign) ? text.length : FULL;
    }

    public int hill() {
        if (hillCount >= MOST_HILLS) {
            return FULL;
        }
        Hill next = hills[hillCount];
        int fault = text.readInto(next);
        text.length = 0;
        if (fault != Text.NO_FAULT) {
            return -10 - fault;
        }
        day.hill = next;
        hillCount++;
        return hillCount - 1;
    }

    public int told(int what) {
        switch (what) {
            case 0: return day.hour;
            case 1: return day.worn;
            case 2: return day.gainOn(day.sides, day.all());
            case 3: return day.hill.need;
            case 4: return day.hill.rope;
            case 5: return day.sides;
            default: return NONE;
        }
    }

    // ---- runs

    public int run(int one, int other) {
        int refusal = refusalOfPair(one, other);
        if (refusal != 0) {
            return refusal;
        }
        if (!day.unlike(one, other, day.sides) || day.hour >= MOST_COUNTED) {
            return STATE;
        }
        return day.haveRun(one, other) ? 1 : 0;
    }

    public int hour() {
        if (day.hour >= MOST_COUNTED) {
            return STATE;
        }
        day.hour++;
        return day.hour;
    }

    public int with(int sledge) {
        if (!day.has(sledge)) {
            return NONE;
        }
        int bits = 0;
        for (int other = 0; other < day.count; other++) {
            if (day.goes(sledge, other, day.sides, day.hour)) {
                bits |= 1 << other;
            }
        }
        return bits;
    }

    public int ballast(int one, int other, int what) {
        if (!day.has(one) || !day.has(other) || !within(what, 1)) {
            return NONE;
        }
        if (one == other) {
            return BAD;
        }
        if (!day.unlike(one, other, day.sides)) {
            return ABSENT;
        }
        int first = day.pullNow(one);
        int second = day.pullNow(other);
        for (int more = 0; more <= 99; more++) {
            if (day.hill.bears(first + more, second)) {
                return what == 0 ? more : one;
            }
            if (day.hill.bears(first, second + more)) {
                return what == 0 ? more : other;
            }
        }
        return ABSENT;
    }

    public int best(int n, int what) {
        boolean asksRow = what >= 10 && what < 10 + Outlook.MOST_HOURS;
        if (!within(what, 1) && !asksRow) {
            return NONE;
        }
        if (!within(n, Outlook.MOST_HOURS)) {
            return BAD;
        }
        if (asksRow && what - 10 >= n) {
            return ABSENT;
        }
        outlook.findBest(day, n, day.all());
        if (asksRow) {
            return outlook.bestPair(day.sides, what - 10);
        }
        return what == 0 ? outlook.gain[0][day.sides] : outlook.worn[0][day.sides];
    }

    public int never() {
        int goers = 0;
        for (int more = 0; more <= 11; more++) {
            goers |= day.goersAt(day.hour + more);
        }
        return day.all() & ~goers;
    }

    public int when(int one, int other) {
        int refusal = refusalOfPair(one, other);
        if (refusal != 0) {
            return refusal;
        }
        for (int more = 0; more <= 59; more++) {
            if (day.goes(one, other, day.sides, day.hour + more)) {
                return more;
            }
        }
        return ABSENT;
    }

    public int can(int sledge, int n) {
        if (!day.has(sledge)) {
            return NONE;
        }
        if (!within(n, Outlook.MOST_RUNS)) {
            return BAD;
        }
        return outlook.crosses(day, sledge, n) ? 1 : 0;
    }

    // ---- dusk, ropes, plans

    public int dusk(int bits) {
        if ((bits & ~day.all()) != 0) {
            return BAD;
        }
        int old = day.dusk;
        day.dusk = bits;
        return old;
    }

    public int runs(int n, int what) {
        if (!within(what, 1)) {
            return NONE;
        }
        if (!within(n, Outlook.MOST_RUNS)) {
            return BAD;
        }
        outlook.countRows(day, n);
        if (what == 0) {
            return outlook.ways[0][day.sides];
        }
        return outlook.firstPair(day, n);
    }

    public int two(int what) {
        if (!within(what, 1)) {
            return NO_GAIN_ASKED;
        }
        return what == 0 ? outlook.waysOfTwo(day) : outlook.mostOfTwo(day);
    }

    public int price(int sledge) {
        if (!day.has(sledge)) {
            return NO_GAIN;
        }
        outlook.findBest(day, 2, day.all());
        int whole = outlook.gain[0][day.sides];
        outlook.findBest(day, 2, day.all() & ~(1 << sledge));
        return whole - outlook.gain[0][day.sides];
    }

    public int plan(int one, int other) {
        if (one == -1) {
            day.planCount = 0;
            return 0;
        }
        int refusal = refusalOfPair(one, other);
        if (refusal != 0) {
            return refusal;
        }
        if (day.planCount >= MOST_ROWS) {
            return FULL;
        }
        day.planOne[day.planCount] = one;
        day.planOther[day.planCount] = other;
        day.planCount++;
        return day.planCount;
    }

    public int wear(int what) {
        if (!within(what, 2)) {
            return NONE;
        }
        int sides = day.sides;
        int worn = day.worn;
        int failed = 0;
        int first = ABSENT;
        for (int i = 0; i < day.planCount; i++) {
            int one = day.planOne[i];
            int other = day.planOther[i];
            int hour = day.hour + i;
            if (day.goes(one, other, sides, hour)) {
                worn = Math.min(MOST_COUNTED, worn + day.pullOfBoth(one, other, sides, hour));
                sides ^= 1 << one | 1 << other;
            } else {
                failed++;
                first = first == ABSENT ? i : first;
            }
        }
        return what == 0 ? worn : what == 1 ? failed : first;
    }

    // ---- odds, books

    public long odds(int one, int other, int part) {
        if (refusalOfPair(one, other) != 0 || !within(part, 1) || !day.unlike(one, other, day.sides)) {
            return NO;
        }
        int first = day.pullNow(one);
        int second = day.pullNow(other);
        int good = 0;
        for (int wind = 0; wind <= 9; wind++) {
            if (day.hill.bears(first + wind, second)) {
                good++;
            }
        }
        return lowestTerm(good, 10, part);
    }

    public long mean(int part) {
        if (!within(part, 1) || day.count == 0) {
            return NO;
        }
        int sum = 0;
        for (int i = 0; i < day.count; i++) {
            sum += day.pullNow(i);
        }
        return lowestTerm(sum, day.count, part);
    }

    public int book(int sledge, int n) {
        if (sledge == -1) {
            day.bookCount = 0;
            return 0;
        }
        if (!day.has(sledge)) {
            return NONE;
        }
        if (!within(n, 999)) {
            return BAD;
        }
        if (day.bookCount >= MOST_ROWS) {
            return FULL;
        }
        day.bookSledge[day.bookCount] = sledge;
        day.bookPull[day.bookCount] = n;
        day.bookCount++;
        return day.bookCount;
    }

    public int looked() {
        for (int i = 0; i < day.bookCount; i++) {
            if (day.pullNow(day.bookSledge[i]) != day.bookPull[i]) {
                return i;
            }
        }
        return ABSENT;
    }

    // ---- judging, the image, acts, tapes

    public int judge(int tape, int i) {
        if (!isTape(tape)) {
            return NONE;
        }
        Tape row = tapes[tape];
        if (!row.isEmpty() && row.sort != Tape.BYTES) {
            return CAST;
        }
        for (int sledge = 0; sledge < day.count; sledge++) {
            // Only a place from 0 on is added to, so the sum cannot wrap.
            if (i < 0 || i >= row.length || i + sledge >= row.length) {
                return 100 + sledge;
            }
            if (row.items[i + sledge] != day.sideOf(sledge)) {
                return sledge;
            }
        }
        return ABSENT;
    }

    public int image() {
        saved.copyFrom(day);
        imageTaken = true;
        return day.count;
    }

    public int undo() {
        if (!imageTaken) {
            return STATE;
        }
        day.copyFrom(saved);
        return day.count;
    }

    public int act(int sledge, int act, int x) {
        if (!day.has(sledge) || !within(act, Acts.TELLS)) {
            acts.ran = 0;
            return 0;
        }
        return acts.perform(day.kind[sledge], sledge, day.v[sledge], act, x);
    }

    public int trace(int i) {
        return i >= 0 && i < acts.ran && i < Acts.KEPT ? acts.kept[i] : NONE;
    }

    public int taken(int sledge, int k) {
        if (!within(k, TOLD)) {
            return BAD;
        }
        if (!day.has(sledge)) {
            return NOTHING;
        }
        return isUnder(day.kind[sledge], k) ? day.kind[sledge] : CAST;
    }

    public int count(int what) {
        switch (what) {
            case 0: return day.count;
            case 1: return hillCount;
            case 2: return day.planCount;
            case 3: return day.bookCount;
            case 4: return text.length;
            case 5: return acts.ran;
            default: return BAD;
        }
    }

    public int tape(int tape, int sort, int n) {
        if (!isTape(tape)) {
            return NONE;
        }
        if (sort == Tape.EMPTY_SORT) {
            tapes[tape].become(sort, 0);
            return 1;
        }
        if (!within(sort, Tape.BOOLEANS) || n > Tape.MOST_ITEMS) {
            return BAD;
        }
        if (n < 0) {
            return SIZE;
        }
        tapes[tape].become(sort, n);
        return 1;
    }

    public int item(int tape, int i, long v) {
        if (!isTape(tape)) {
            return NONE;
        }
        Tape row = tapes[tape];
        if (row.isEmpty()) {
            return NOTHING;
        }
        if (i < 0 || i >= row.length) {
            return PLACE;
        }
        row.items[i] = row.cut(v);
        return 1;
    }

    public long read(int tape, int i) {
        if (!isTape(tape) || i < 0 || i >= tapes[tape].length) {
            return NO;
        }
        return tapes[tape].items[i];
    }

    public int shift(int tape, int i, int other, int j, int n) {
        if (!isTape(tape) || !isTape(other)) {
            return NONE;
        }
        Tape from = tapes[tape];
        Tape to = tapes[other];
        if (from.isEmpty() || to.isEmpty()) {
            return NOTHING;
        }
        if (from.sort != to.sort) {
            return CAST;
        }
        if (n < 0 || i < 0 || j < 0 || i > from.length - n || j > to.length - n) {
            return PLACE;
        }
        System.arraycopy(from.items, i, to.items, j, n);
        return n;
    }

    // ---- what several calls need

    private static boolean within(int n, int most) {
        return n >= 0 && n <= most;
    }

    private static boolean isTape(int tape) {
        return within(tape, Tape.COUNT - 1);
    }

    /** What two numbers that should be two SLEDGES are refused with; 0 if they are. */
    private int refusalOfPair(int one, int other) {
        if (!day.has(one) || !day.has(other)) {
            return NONE;
        }
        return one == other ? BAD : 0;
    }

    private static boolean isUnder(int kind, int top) {
        int at = kind;
        for (int steps = 0; steps < ABOVE.length && at >= 0; steps++) {
            if (at == top) {
                return true;
            }
            at = ABOVE[at];
        }
        return false;
    }

    private static long lowestTerm(int above, int below, int part) {
        int a = above;
        int b = below;
        // Each step makes b less, so a hundred are more than enough for an int.
        for (int steps = 0; steps < 100 && b != 0; steps++) {
            int rest = a % b;
            a = b;
            b = rest;
        }
        int divisor = Math.max(1, a);
        return part == 0 ? above / divisor : below / divisor;
    }

    /** All that THE IMAGE keeps, so that taking it and going back to it are one copy each. */
    private static final class Day {
        static final int PARTS = 4;

        int count;
        int hour;
        int worn;
        int dusk;
        /** A bit for each SLEDGE: its SIDE; likewise its GOAL. */
        int sides;
        int goals;
        final int[] kind = new int[MOST_SLEDGES];
        final int[] v = new int[MOST_SLEDGES];
        final int[] load = new int[MOST_SLEDGES];
        final int[] worth = new int[MOST_SLEDGES];
        final int[] rows = new int[MOST_SLEDGES * PARTS];
        int planCount;
        final int[] planOne = new int[MOST_ROWS];
        final int[] planOther = new int[MOST_ROWS];
        int bookCount;
        final int[] bookSledge = new int[MOST_ROWS];
        final int[] bookPull = new int[MOST_ROWS];
        Hill hill;
        /** Made once and filled for each PULL: what the letters of a TEST stand for. */
        private final int[] facts = new int[Hill.LETTERS];

        Day(Hill bare) {
            hill = bare;
        }

        /** All places are copied, those of no SLEDGE too: so one that undo() takes away leaves no ROW to the next. */
        void copyFrom(Day other) {
            count = other.count;
            hour = other.hour;
            worn = other.worn;
            dusk = other.dusk;
            sides = other.sides;
            goals = other.goals;
            System.arraycopy(other.kind, 0, kind, 0, kind.length);
            System.arraycopy(other.v, 0, v, 0, v.length);
            System.arraycopy(other.load, 0, load, 0, load.length);
            System.arraycopy(other.worth, 0, worth, 0, worth.length);
            System.arraycopy(other.rows, 0, rows, 0, rows.length);
            planCount = other.planCount;
            System.arraycopy(other.planOne, 0, planOne, 0, planOne.length);
            System.arraycopy(other.planOther, 0, planOther, 0, planOther.length);
            bookCount = other.bookCount;
            System.arraycopy(other.bookSledge, 0, bookSledge, 0, bookSledge.length);
            System.arraycopy(other.bookPull, 0, bookPull, 0, bookPull.length);
            hill = other.hill;
        }

        boolean has(int sledge) {
            return sledge >= 0 && sledge < count;
        }

        /** All SLEDGES, as bits. */
        int all() {
            return (1 << count) - 1;
        }

        int add(int kindOf, int number, int weight, int side, int goal, int value) {
            int sledge = count;
            kind[sledge] = kindOf;
            v[sledge] = number;
            load[sledge] = weight;
            worth[sledge] = value;
            sides = withBit(sides, sledge, side);
            goals = withBit(goals, sledge, goal);
            count++;
            return sledge;
        }

        int changeLoad(int sledge, int n) {
            int old = load[sledge];
            load[sledge] = n;
            return old;
        }

        int changeGoal(int sledge, int n) {
            int old = goals >> sledge & 1;
            goals = withBit(goals, sledge, n);
            return old;
        }

        private static int withBit(int bits, int place, int bit) {
            return bits & ~(1 << place) | bit << place;
        }

        int sideOf(int sledge) {
            return sides >> sledge & 1;
        }

        boolean unlike(int one, int other, int sidesThen) {
            return (sidesThen >> one & 1) != (sidesThen >> other & 1);
        }

        int pullNow(int sledge) {
            return pullAt(sledge, sideOf(sledge), hour);
        }

        int pullAt(int sledge, int side, int hourThen) {
            facts[0] = sledge;
            facts[1] = kind[sledge];
            facts[2] = v[sledge];
            facts[3] = side;
            facts[4] = load[sledge] / 10;
            facts[5] = hourThen % 12;
            int plain = load[sledge] + hill.drift(facts);
            return Math.max(0, pullOfKind(sledge, plain, hourThen));
        }

        /** May be below 0: only what comes out at last may not. */
        private int pullOfKind(int sledge, int plain, int hourThen) {
            int number = v[sledge];
            switch (kind[sledge]) {
                case LADEN: return plain + number;
                case EMPTY: return plain / 2;
                case BRAKED: return plain - 2 * number;
                case GIFT: return (plain + number) * (hourThen % 2 == 1 ? 2 : 1);
                case CHILD: return hourThen % 3 == 0 ? number : plain / 2;
                case TOLD: return plain - 2 * number + rows[sledge * PARTS + hourThen % PARTS];
                default: return plain;
            }
        }

        int pullOfBoth(int one, int other, int sidesThen, int hourThen) {
            return pullAt(one, sidesThen >> one & 1, hourThen) + pullAt(other, sidesThen >> other & 1, hourThen);
        }

        boolean goes(int one, int other, int sidesThen, int hourThen) {
            return unlike(one, other, sidesThen)
                    && hill.bears(pullAt(one, sidesThen >> one & 1, hourThen),
                            pullAt(other, sidesThen >> other & 1, hourThen));
        }

        boolean haveRun(int one, int other) {
            boolean went = goes(one, other, sides, hour);
            if (went) {
                worn = Math.min(MOST_COUNTED, worn + pullOfBoth(one, other, sides, hour));
                sides ^= 1 << one | 1 << other;
            }
            hour++;
            return went;
        }

        /** The SLEDGES that had some RUN that GOES, if it were that HOUR, as bits. */
        int goersAt(int hourThen) {
            int goers = 0;
            for (int one = 0; one < count; one++) {
                for (int other = one + 1; other < count; other++) {
                    if (goes(one, other, sides, hourThen)) {
                        goers |= 1 << one | 1 << other;
                    }
                }
            }
            return goers;
        }

        /** GAIN, if the SLEDGES stood on those SIDES, and only those of the bits were there. */
        int gainOn(int sidesThen, int present) {
            int home = present & ~(sidesThen ^ goals);
            int sum = 0;
            for (int i = 0; i < count; i++) {
                if ((home >> i & 1) == 1) {
                    sum += worth[i];
                }
            }
            return sum;
        }
    }

    /** CLAUSES as read; without any it is the ground on which there is no HILL. */
    private static final class Hill {
        static final int LETTERS = 6;
        static final int MOST_CLAUSES = 10;
        static final int NOT = -1, AND = -2, OR = -3;

        int need = 1;
        int rope = 990;
        private int falls;
        private final int[] amount = new int[MOST_CLAUSES];
        private final int[] end = new int[MOST_CLAUSES];
        /** Each E with its operators behind what they join, so that it is worked out without recursion. */
        private final int[] code = new int[Text.MOST];
        private int size;

        void clear() {
            need = 1;
            rope = 990;
            falls = 0;
            size = 0;
        }

        void write(int step) {
            if (size < code.length) {
                code[size] = step;
                size++;
            }
        }

        void writeTest(int letter, int relation, int number) {
            write((letter * 3 + relation) * 100 + number);
        }

        /** Ends the E written last; slush is snow below 0. */
        void endFall(int n) {
            if (falls < MOST_CLAUSES) {
                amount[falls] = n;
                end[falls] = size;
                falls++;
            }
        }

        /** SNOW less SLUSH. */
        int drift(int[] facts) {
            int sum = 0;
            int from = 0;
            for (int i = 0; i < falls; i++) {
                if (holds(from, end[i], facts)) {
                    sum += amount[i];
                }
                from = end[i];
            }
            return sum;
        }

        /** The lowest bit is the top of a stack; 4 nested ( or ! never need more than 11 bits. */
        private boolean holds(int from, int to, int[] facts) {
            long stack = 0;
            for (int i = from; i < to; i++) {
                int step = code[i];
                if (step == NOT) {
                    stack ^= 1;
                } else if (step == AND) {
                    stack = stack >>> 1 & (stack | ~1L);
                } else if (step == OR) {
                    stack = stack >>> 1 | stack & 1;
                } else {
                    stack = stack << 1 | (passes(step, facts) ? 1 : 0);
                }
            }
            return (stack & 1) == 1;
        }

        private static boolean passes(int test, int[] facts) {
            int number = test % 100;
            int fact = facts[test / 300];
            switch (test / 100 % 3) {
                case 0: return fact < number;
                case 1: return fact == number;
                default: return fact > number;
            }
        }

        boolean bears(int onePull, int otherPull) {
            return Math.abs(onePull - otherPull) >= need && onePull + otherPull <= rope;
        }
    }

    /** THE TEXT and its reading: what is accepted is passed, so a FAULT is where the reading stopped. */
    private static final class Text {
        static final int MOST = 100;
        static final int NO_FAULT = -1;
        private static final int MOST_NESTED = 4;
        /** No sign: what stands behind the last one, so that no reading goes past it. */
        private static final int END = -1;
        private static final String LETTERS = "skvdlh";
        private static final String RELATIONS = "<=>";

        private final byte[] bytes = new byte[MOST];
        int length;
        private int at;

        boolean add(int sign) {
            if (length >= MOST) {
                return false;
            }
            bytes[length] = (byte) sign;
            length++;
            return true;
        }

        int readInto(Hill hill) {
            at = 0;
            hill.clear();
            for (int clauses = 1; clauses <= Hill.MOST_CLAUSES; clauses++) {
                if (!readClause(hill)) {
                    return at;
                }
                if (sign() == END) {
                    return NO_FAULT;
                }
                // Behind the last clause that may be, a ; is a fault too.
                if (clauses == Hill.MOST_CLAUSES || !accept(';')) {
                    return at;
                }
            }
            return at;
        }

        private boolean readClause(Hill hill) {
            boolean falls = accept('s');
            boolean slush = falls && sign() == 'l';
            boolean rope = !falls && sign() == 'r';
            if (!acceptAll(slush ? "lush " : falls ? "now " : rope ? "rope " : "need ")) {
                return false;
            }
            int n = readNumber();
            if (n == END) {
                return false;
            }
            if (falls) {
                if (!accept(' ') || !readEither(hill, 0)) {
                    return false;
                }
                hill.endFall(slush ? -n : n);
            } else if (rope) {
                hill.rope = 10 * n;
            } else {
                hill.need = n;
            }
            return true;
        }

        /** E: nested says how many ( and ! stand around it. */
        private boolean readEither(Hill hill, int nested) {
            if (!readBoth(hill, nested)) {
                return false;
            }
            for (int steps = 0; steps < MOST && accept('|'); steps++) {
                if (!readBoth(hill, nested)) {
                    return false;
                }
                hill.write(Hill.OR);
            }
            return true;
        }

        /** T. */
        private boolean readBoth(Hill hill, int nested) {
            if (!readSingle(hill, nested)) {
                return false;
            }
            for (int steps = 0; steps < MOST && accept('&'); steps++) {
                if (!readSingle(hill, nested)) {
                    return false;
                }
                hill.write(Hill.AND);
            }
            return true;
        }

        /** F. */
        private boolean readSingle(Hill hill, int nested) {
            if (nested < MOST_NESTED && accept('!')) {
                if (!readSingle(hill, nested + 1)) {
                    return false;
                }
                hill.write(Hill.NOT);
                return true;
            }
            if (nested < MOST_NESTED && accept('(')) {
                return readEither(hill, nested + 1) && accept(')');
            }
            int letter = acceptOneOf(LETTERS);
            int relation = letter < 0 ? -1 : acceptOneOf(RELATIONS);
            int number = relation < 0 ? END : readNumber();
            if (number == END) {
                return false;
            }
            hill.writeTest(letter, relation, number);
            return true;
        }

        /** 1 or 2 digits; END, if there is none. */
        private int readNumber() {
            int n = END;
            for (int digits = 0; digits < 2 && sign() >= '0' && sign() <= '9'; digits++) {
                n = Math.max(0, n) * 10 + sign() - '0';
                at++;
            }
            return n;
        }

        /** The one that is read next. */
        private int sign() {
            return at < length ? bytes[at] : END;
        }

        private boolean accept(char due) {
            if (sign() != due) {
                return false;
            }
            at++;
            return true;
        }

        private boolean acceptAll(String signs) {
            for (int i = 0; i < signs.length(); i++) {
                if (sign() != signs.charAt(i)) {
                    return false;
                }
                at++;
            }
            return true;
        }

        /** Which of the signs stands here; below 0, if none does. */
        private int acceptOneOf(String signs) {
            int place = sign() == END ? -1 : signs.indexOf((char) sign());
            if (place >= 0) {
                at++;
            }
            return place;
        }
    }

    /**
     * Rows of RUNS, looked over from their ends on: what is best or counted from an HOUR on
     * hangs on the SIDES alone, so each set of SIDES is worked out once an HOUR.
     */
    private static final class Outlook {
        static final int MOST_HOURS = 4, MOST_RUNS = 3;
        private static final int SETS = 1 << MOST_SLEDGES;
        private static final int[] ONE = {0, 0, 0, 0, 0, 0, 1, 1, 1, 1, 1, 2, 2, 2, 2, 3, 3, 3, 4, 4, 5};
        private static final int[] OTHER = {1, 2, 3, 4, 5, 6, 2, 3, 4, 5, 6, 3, 4, 5, 6, 4, 5, 6, 5, 6, 6};
        private static final int PAIRS = 21;
        /** Stands behind all pairs, as no RUN does in a row. */
        private static final int NO_RUN = PAIRS;
        private static final int NO_PAIR_TOLD = 99;

        final int[][] gain = new int[MOST_HOURS + 1][SETS];
        final int[][] worn = new int[MOST_HOURS + 1][SETS];
        final int[][] ways = new int[MOST_RUNS + 1][SETS];
        private final int[][] choice = new int[MOST_HOURS][SETS];
        /** By HOURS from now, then SIDE and SLEDGE. */
        private final int[][] pull = new int[MOST_HOURS][2 * MOST_SLEDGES];
        private int present;

        private void look(Day day, int hours, int those) {
            present = those;
            for (int h = 0; h < hours; h++) {
                for (int i = 0; i < day.count; i++) {
                    pull[h][i] = day.pullAt(i, 0, day.hour + h);
                    pull[h][MOST_SLEDGES + i] = day.pullAt(i, 1, day.hour + h);
                }
            }
        }

        private static int bitsOf(int pair) {
            return pair == NO_RUN ? 0 : 1 << ONE[pair] | 1 << OTHER[pair];
        }

        private static int numberOf(int pair) {
            return pair == NO_RUN ? NO_PAIR_TOLD : 10 * ONE[pair] + OTHER[pair];
        }

        private int pullThen(int h, int sledge, int sides) {
            return pull[h][(sides >> sledge & 1) * MOST_SLEDGES + sledge];
        }

        private int pullOfPair(int h, int sides, int pair) {
            return pair == NO_RUN ? 0 : pullThen(h, ONE[pair], sides) + pullThen(h, OTHER[pair], sides);
        }

        private boolean pairGoes(Day day, int h, int sides, int pair) {
            int bits = bitsOf(pair);
            return (bits & ~present) == 0 && Integer.bitCount(bits & sides) == 1
                    && day.hill.bears(pullThen(h, ONE[pair], sides), pullThen(h, OTHER[pair], sides));
        }

        /** A RUN takes one SLEDGE each way, so no row comes to SIDES with more or fewer on SIDE 1. */
        private static boolean reachable(Day day, int sides) {
            return Integer.bitCount(sides) == Integer.bitCount(day.sides);
        }

        void findBest(Day day, int hours, int those) {
            look(day, hours, those);
            for (int h = hours; h >= 0; h--) {
                for (int sides = 0; sides <= day.all(); sides++) {
                    if (!reachable(day, sides)) {
                        continue;
                    }
                    if (h == hours) {
                        gain[h][sides] = day.gainOn(sides, those);
                        worn[h][sides] = 0;
                    } else {
                        choose(day, h, sides);
                    }
                }
            }
        }

        /** The first of those as good stays, so that the whole row is the first as well. */
        private void choose(Day day, int h, int sides) {
            int most = -1;
            int least = 0;
            int chosen = NO_RUN;
            for (int pair = 0; pair <= NO_RUN; pair++) {
                if (pair != NO_RUN && !pairGoes(day, h, sides, pair)) {
                    continue;
                }
                int next = sides ^ bitsOf(pair);
                int gained = gain[h + 1][next];
                int wornMore = worn[h + 1][next] + pullOfPair(h, sides, pair);
                if (gained > most || gained == most && wornMore < least) {
                    most = gained;
                    least = wornMore;
                    chosen = pair;
                }
            }
            gain[h][sides] = most;
            worn[h][sides] = least;
            choice[h][sides] = chosen;
        }

        int bestPair(int sides, int k) {
            int then = sides;
            for (int h = 0; h < k; h++) {
                then ^= bitsOf(choice[h][then]);
            }
            return numberOf(choice[k][then]);
        }

        boolean crosses(Day day, int sledge, int n) {
            look(day, n, day.all());
            for (int h = n; h >= 0; h--) {
                for (int sides = 0; sides <= day.all(); sides++) {
                    boolean there = (sides >> sledge & 1) != day.sideOf(sledge);
                    ways[h][sides] = there || h < n && waysOn(day, h, sides) > 0 ? 1 : 0;
                }
            }
            return ways[0][day.sides] > 0;
        }

        void countRows(Day day, int n) {
            look(day, n, day.all());
            for (int h = n; h >= 0; h--) {
                for (int sides = 0; sides <= day.all(); sides++) {
                    ways[h][sides] = h < n ? waysOn(day, h, sides) : sides == day.dusk ? 1 : 0;
                }
            }
        }

        private int waysOn(Day day, int h, int sides) {
            if (!reachable(day, sides)) {
                return 0;
            }
            int sum = 0;
            for (int pair = 0; pair < PAIRS; pair++) {
                if (pairGoes(day, h, sides, pair)) {
                    sum += ways[h + 1][sides ^ bitsOf(pair)];
                }
            }
            return sum;
        }

        /** Of the rows that countRows found. */
        int firstPair(Day day, int n) {
            if (ways[0][day.sides] == 0) {
                return ABSENT;
            }
            for (int pair = 0; n > 0 && pair < PAIRS; pair++) {
                if (pairGoes(day, 0, day.sides, pair) && ways[1][day.sides ^ bitsOf(pair)] > 0) {
                    return numberOf(pair);
                }
            }
            return NO_PAIR_TOLD;
        }

        int waysOfTwo(Day day) {
            look(day, 1, day.all());
            int sum = 0;
            for (int first = 0; first < PAIRS; first++) {
                for (int second = first + 1; second < PAIRS; second++) {
                    sum += bothGo(day, first, second) ? 1 : 0;
                }
            }
            return sum;
        }

        int mostOfTwo(Day day) {
            look(day, 1, day.all());
            int now = day.gainOn(day.sides, present);
            int most = NO_GAIN;
            for (int first = 0; first < PAIRS; first++) {
                for (int second = first + 1; second < PAIRS; second++) {
                    if (bothGo(day, first, second)) {
                        int then = day.sides ^ bitsOf(first) ^ bitsOf(second);
                        most = Math.max(most, day.gainOn(then, present) - now);
                    }
                }
            }
            return most;
        }

        private boolean bothGo(Day day, int first, int second) {
            return (bitsOf(first) & bitsOf(second)) == 0
                    && pairGoes(day, 0, day.sides, first) && pairGoes(day, 0, day.sides, second);
        }
    }

    /** ACTS and THE TRACE of the latest. */
    private static final class Acts {
        static final int SLIDES = 0, PULLS = 1, TELLS = 2;
        static final int KEPT = 20;
        /** No ACT of the document goes deeper than six bodies. */
        private static final int DEEPEST = 12;
        private static final int KINDS = 7;
        /** By ACT, then KIND: the body that it has there; 0, if it has none. */
        private static final int[] BODY = {
            10, 0, 30, 0, 50, 0, 71,
            11, 20, 0, 0, 51, 0, 70,
            12, 0, 0, 40, 0, 60, 0,
        };

        final int[] kept = new int[KEPT];
        int ran;
        private int kind;
        private int number;
        private int v;

        int perform(int itsKind, int itsNumber, int itsV, int act, int x) {
            kind = itsKind;
            number = itsNumber;
            v = itsV;
            ran = 0;
            return actFrom(act, kind, x, 0);
        }

        private void begin(int body) {
            if (ran < KEPT) {
                kept[ran] = body;
            }
            ran++;
        }

        private int actFrom(int act, int from, int x, int depth) {
            int owner = from;
            for (int steps = 0; steps < KINDS && owner > 0 && BODY[act * KINDS + owner] == 0; steps++) {
                owner = ABOVE[owner];
            }
            if (owner < 0 || depth >= DEEPEST) {
                return 0;
            }
            int body = BODY[act * KINDS + owner];
            begin(body);
            return workOut(body, ABOVE[owner], x, depth + 1);
        }

        /** Java works each sum out from the left on, as THE TRACE wants it. */
        private int workOut(int body, int above, int x, int depth) {
            switch (body) {
                case 10: return x + number;
                case 11: return actFrom(SLIDES, kind, x, depth) - v;
                case 12: return actFrom(PULLS, kind, x, depth) * 2;
                case 20: return actFrom(PULLS, above, x, depth) ^ 6;
                case 30: return actFrom(SLIDES, above, x * 3, depth);
                case 40: return actFrom(TELLS, above, x, depth) + actFrom(PULLS, kind, 1, depth);
                case 50: return -actFrom(SLIDES, above, x, depth);
                case 51: return actFrom(PULLS, above, x + 1, depth);
                case 60: return actFrom(TELLS, above, x - number, depth);
                case 70: return actFrom(PULLS, above, x, depth) + actFrom(SLIDES, above, 2, depth);
                case 71: return actFrom(SLIDES, above, x, depth) ^ v;
                default: return 0;
            }
        }
    }

    /** Kept in longs whatever the sort: an item is cut to its sort as it comes. */
    private static final class Tape {
        static final int COUNT = 6, MOST_ITEMS = 60;
        static final int EMPTY_SORT = -1, BYTES = 0, SHORTS = 1, INTS = 2, BOOLEANS = 4;

        int sort = EMPTY_SORT;
        int length;
        final long[] items = new long[MOST_ITEMS];

        boolean isEmpty() {
            return sort == EMPTY_SORT;
        }

        void become(int newSort, int n) {
            sort = newSort;
            length = n;
            for (int i = 0; i < MOST_ITEMS; i++) {
                items[i] = 0;
            }
        }

        long cut(long v) {
            switch (sort) {
                case BYTES: return (byte) v;
                case SHORTS: return (short) v;
                case INTS: return (int) v;
                case BOOLEANS: return v != 0 ? 1 : 0;
                default: return v;
            }
        }
    }
}
