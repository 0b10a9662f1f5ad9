/** The boundaries of terms 1 to 3 and of the promises: a case inside of each, a case outside. HillBoundsTest has THE TEXT's. */
public final class BoundsTest {
    private static final int MIN = Bounds.MIN, MAX = Bounds.MAX;
    private static final int NONE = Bounds.NONE, BAD = Bounds.BAD, STATE = Bounds.STATE, FULL = Bounds.FULL, ABSENT = Bounds.ABSENT;
    private static final int NOTHING = Bounds.NOTHING, CAST = Bounds.CAST, PLACE = Bounds.PLACE, SIZE = Bounds.SIZE;
    private static final long NO = Bounds.NO;
    /** No SLEDGES of six. */
    private static final int[] STRANGE = {-2, -1, 6, 7, MIN, MAX};
    private static final String HEAVY = "snow 99 s<9;snow 99 s<9;snow 99 s<9;snow 99 s<9;need 0";

    public static void main(String[] args) {
        anew(); sledge(); of(); set(); row(); told(); run(); runThatDoesNotGo(); worn(); hour(); lateHours();
        bySides(); with(); ballast(); best(); bestOfSeveral(); never(); when(); can(); dusk(); runs(); two(); price();
        plan(); wear(); odds(); mean(); book(); looked(); judge(); image(); imageHolds(); imageLeaves(); act(); actsWrap(); trace();
        taken(); count(); tape(); item(); read(); shift(); asking();
        Bounds.end("BoundsTest");
    }

    private static void due(String name, long got, long want) {
        Bounds.due(name, got, want);
    }

    private static FetchRope plain(int... loadsAndSides) {
        return Bounds.plain(loadsAndSides);
    }

    /** Of six SLEDGES that differ the call refuses all numbers but 0 .. 5, wherever a number stands. */
    private static void strangers(String name, java.util.function.ToLongBiFunction<FetchRope, Integer> ask, long refusal) {
        for (int s : STRANGE) {
            Bounds.still(name + ", SLEDGE " + s, Bounds::rich, x -> ask.applyAsLong(x, s), refusal);
            Bounds.still(name + ", SLEDGE " + s + " of none", Bounds::fresh, x -> ask.applyAsLong(x, s), refusal);
        }
        Bounds.still(name + ", SLEDGE 0 of none", Bounds::fresh, x -> ask.applyAsLong(x, 0), refusal);
        Bounds.still(name + ", SLEDGE 7 of seven", Bounds::full, x -> ask.applyAsLong(x, 7), refusal);
        for (int s = 0; s <= 5; s++) due(name + ", SLEDGE " + s + ": not refused", ask.applyAsLong(Bounds.rich(), s) == refusal ? 0 : 1, 1);
        due(name + ", SLEDGE 6 of seven: not refused", ask.applyAsLong(Bounds.full(), 6) == refusal ? 0 : 1, 1);
    }

    private static void anew() {
        FetchRope x = new FetchRope();
        for (int what = 0; what <= 5; what++) due("1: count " + what, x.count(what), 0);
        for (int what = 0; what <= 5; what++) due("1: told " + what, x.told(what), new int[] {0, 0, 0, 1, 990, 0}[what]);
        for (int n = 0; n <= 4; n++) {
            due("1: best of " + n, x.best(n, 0), 0);
            due("1: its WORN", x.best(n, 1), 0);
            for (int k = 0; k <= 3; k++) due("1: its row", x.best(n, 10 + k), k < n ? 99 : ABSENT);
        }
        for (int n = 0; n <= 3; n++) {
            due("1: runs of " + n, x.runs(n, 0), n == 0 ? 1 : 0);
            due("1: the first pair", x.runs(n, 1), n == 0 ? 99 : ABSENT);
        }
        due("1: never", x.never(), 0);
        due("1: two", x.two(0), 0);
        due("1: two, the most", x.two(1), -1001);
        for (int what = 0; what <= 2; what++) due("1: wear " + what, x.wear(what), what == 2 ? ABSENT : 0);
        due("1: mean", x.mean(0), NO);
        due("1: looked", x.looked(), ABSENT);
        due("1: trace", x.trace(0), NONE);
        for (int tape = 0; tape <= 5; tape++) {
            due("1: TAPES hold nothing at first", x.item(tape, 0, 1), NOTHING);
            due("1: TAPES hold nothing at first", x.read(tape, 0), NO);
            due("1: judge", x.judge(tape, 0), ABSENT);
        }
        due("1: no IMAGE", x.undo(), STATE);
        due("1: DUSK is 0 at first", x.dusk(0), 0);
    }

    // ---- sledges, hills

    private static int made(FetchRope x, int[] facts) {
        return x.sledge(facts[0], facts[1], facts[2], facts[3], facts[4], facts[5]);
    }

    private static void sledge() {
        int[] most = {6, 9, 99, 1, 1, 99};
        String[] names = {"kind", "v", "load", "side", "goal", "worth"};
        for (int i = 0; i < 6; i++) {
            int place = i;
            for (int n : new int[] {0, 1, most[i] - 1, most[i]}) {
                FetchRope x = new FetchRope();
                int[] facts = {0, 0, 0, 0, 0, 0};
                facts[i] = n;
                due("2: " + names[i] + " " + n, made(x, facts), 0);
                for (int what = 0; what <= 5; what++) due("3: what " + what, x.of(0, what), facts[what]);
            }
            for (int n : new int[] {-1, most[i] + 1, MIN, MAX}) {
                int[] facts = {0, 0, 0, 0, 0, 0};
                facts[i] = n;
                Bounds.still("2: " + names[i] + " " + n, Bounds::fresh, x -> made(x, facts), place == 0 ? NONE : BAD);
                Bounds.still("2: " + names[i] + " " + n, Bounds::rich, x -> made(x, facts), place == 0 ? NONE : BAD);
                Bounds.still("2: " + names[i] + " " + n + " of an eighth", Bounds::full, x -> made(x, facts), place == 0 ? NONE : BAD);
            }
        }
        Bounds.still("2: NONE ahead of BAD", Bounds::rich, x -> x.sledge(7, 10, 100, 2, 2, 100), NONE);
        FetchRope x = new FetchRope();
        for (int i = 0; i < 7; i++) due("2: number " + i, made(x, most), i);
        due("2: an eighth", made(x, most), FULL);
        due("33: SLEDGES", x.count(0), 7);
        Bounds.still("2: an eighth", Bounds::full, y -> y.sledge(0, 0, 0, 0, 0, 0), FULL);
        due("2: the seventh", Bounds.rich().sledge(6, 0, 0, 0, 0, 0), 6);
    }

    private static void of() {
        for (int what = 0; what <= 6; what++) {
            int asked = what;
            strangers("3, what " + what, (x, s) -> x.of(s, asked), NONE);
        }
        for (int what : new int[] {-1, 7, MIN, MAX}) Bounds.still("3: what " + what, Bounds::rich, x -> x.of(0, what), NONE);
        int[] facts = {4, 6, 20, 0, 0, 5, 26};
        for (int what = 0; what <= 6; what++) {
            int asked = what;
            FetchRope x = new FetchRope();
            x.sledge(4, 6, 20, 0, 0, 5);
            due("3: what " + what, x.of(0, what), facts[what]);
            Bounds.quiet("3: what " + what, Bounds::rich, y -> y.of(5, asked));
        }
    }

    private static void set() {
        strangers("4: LOAD", (x, s) -> x.set(s, 0, 5), NONE);
        strangers("4: GOAL", (x, s) -> x.set(s, 1, 1), NONE);
        strangers("4: NONE ahead of BAD", (x, s) -> x.set(s, 0, s >= 0 && s <= 6 ? 99 : 100), NONE);
        for (int what : new int[] {-1, 2, MIN, MAX}) {
            Bounds.still("4: what " + what, Bounds::rich, x -> x.set(0, what, 0), NONE);
            Bounds.still("4: what " + what + " and a bad n", Bounds::rich, x -> x.set(0, what, -1), NONE);
        }
        for (int n : new int[] {-1, 100, MIN, MAX}) Bounds.still("4: LOAD " + n, Bounds::rich, x -> x.set(1, 0, n), BAD);
        for (int n : new int[] {-1, 2, MIN, MAX}) Bounds.still("4: GOAL " + n, Bounds::rich, x -> x.set(1, 1, n), BAD);
        FetchRope x = plain(30, 0, 20, 1);
        int[] loads = {30, 0, 99, 1, 98, 98, 30};
        for (int i = 1; i < loads.length; i++) {
            due("4: LOAD " + loads[i], x.set(0, 0, loads[i]), loads[i - 1]);
            due("3: LOAD", x.of(0, 2), loads[i]);
            due("3: PULL", x.of(0, 6), loads[i]);
        }
        int[] goals = {1, 0, 0, 1, 1};
        for (int i = 1; i < goals.length; i++) {
            due("4: GOAL " + goals[i], x.set(0, 1, goals[i]), goals[i - 1]);
            due("3: GOAL", x.of(0, 4), goals[i]);
            due("8: GAIN", x.told(2), goals[i] == 0 ? 2 : 1);
        }
        Bounds.alike("4: nothing else", x, plain(30, 0, 20, 1));
    }

    private static FetchRope ofEachKind() {
        FetchRope x = new FetchRope();
        for (int kind = 0; kind < 7; kind++) x.sledge(kind, 1, 30, kind % 2, 0, 5);
        return x;
    }

    private static void row() {
        strangers("5: row", (x, s) -> x.row(s, 0, 5), NONE);
        for (int part : new int[] {-1, 4, MIN, MAX}) {
            Bounds.still("5: part " + part, Bounds::rich, x -> x.row(5, part, 5), NONE);
            Bounds.still("5: part " + part + ", a bad n, another KIND", Bounds::rich, x -> x.row(0, part, 10), NONE);
        }
        for (int n : new int[] {-1, 10, MIN, MAX}) {
            Bounds.still("5: n " + n, Bounds::rich, x -> x.row(5, 0, n), BAD);
            Bounds.still("5: n " + n + ", another KIND", Bounds::rich, x -> x.row(0, 0, n), BAD);
            Bounds.still("5: n " + n + ", no SLEDGE", Bounds::rich, x -> x.row(6, 0, n), NONE);
        }
        for (int kind = 0; kind < 6; kind++) {
            int s = kind;
            Bounds.still("5: KIND " + kind, BoundsTest::ofEachKind, x -> x.row(s, 3, 9), STATE);
        }
        for (int part = 0; part < 4; part++) {
            FetchRope x = ofEachKind();
            due("5: part " + part + ": 0 at first", x.row(6, part, 9), 0);
            due("5: part " + part, x.row(6, part, 0), 9);
            due("5: part " + part, x.row(6, part, 8), 0);
            for (int hour = 0; hour < 9; hour++) {
                due("5: part " + part + " at HOUR " + hour, x.of(6, 6), hour % 4 == part ? 36 : 28);
                x.hour();
            }
            x.row(6, part, 0);
            for (int other = 0; other < 4; other++) due("5: another part", x.row(6, other, 0), 0);
        }
    }

    private static void told() {
        for (int what : new int[] {-1, 6, MIN, MAX}) {
            Bounds.still("8: what " + what, Bounds::rich, x -> x.told(what), NONE);
            Bounds.still("8: what " + what, Bounds::fresh, x -> x.told(what), NONE);
        }
        FetchRope x = new FetchRope();
        for (int i = 0; i < 7; i++) x.sledge(0, 0, 10 * i, 1, 1, 99);
        due("8: the most GAIN", x.told(2), 7 * 99);
        due("8: all on SIDE 1", x.told(5), 127);
        for (int i = 0; i < 7; i++) x.set(i, 1, 0);
        due("8: no GAIN", x.told(2), 0);
        due("8: none on SIDE 1", plain(5, 0, 6, 0).told(5), 0);
        due("8: the first alone", plain(5, 1, 6, 0).told(5), 1);
    }

    // ---- runs

    private static void run() {
        strangers("9: one", (x, s) -> x.run(s, s == 0 ? 1 : 0), NONE);
        strangers("9: other", (x, s) -> x.run(s == 0 ? 1 : 0, s), NONE);
        strangers("9: NONE ahead of BAD", (x, s) -> x.run(s, s), NONE);
        for (int s = 0; s <= 5; s++) {
            int one = s;
            Bounds.still("9: one SLEDGE", Bounds::rich, x -> x.run(one, one), BAD);
        }
        Bounds.still("9: on SIDE 0", () -> plain(30, 0, 20, 0), x -> x.run(0, 1), STATE);
        Bounds.still("9: on SIDE 1", () -> plain(30, 1, 20, 1), x -> x.run(1, 0), STATE);
        FetchRope x = plain(30, 0, 20, 1, 25, 0);
        due("9: it GOES", x.run(1, 0), 1);
        due("9: both are on the other SIDE", x.told(5), 1);
        due("9: the third stays", x.of(2, 3), 0);
        due("9: WORN", x.told(1), 50);
        due("9: HOUR", x.told(0), 1);
        FetchRope y = Bounds.on("need 10;rope 5", 30, 0, 20, 1);
        due("9: need and ROPE just met", y.run(0, 1), 1);
        FetchRope z = Bounds.on("need 0;rope 0", 0, 0, 0, 1);
        due("9: both PULL 0", z.run(0, 1), 1);
        due("9: WORN is 0 more", z.told(1), 0);
        due("9: but they are over", z.told(5), 1);
    }

    private static FetchRope hourLater(FetchRope x) {
        x.hour();
        return x;
    }

    private static void runThatDoesNotGo() {
        FetchRope x = Bounds.on("need 11", 30, 0, 20, 1);
        due("9: one less apart than need", x.run(0, 1), 0);
        Bounds.alike("9: nothing changes but HOUR", x, hourLater(Bounds.on("need 11", 30, 0, 20, 1)));
        FetchRope y = Bounds.on("rope 5", 31, 0, 20, 1);
        due("9: one more together than ROPE", y.run(1, 0), 0);
        Bounds.alike("9: nothing changes but HOUR", y, hourLater(Bounds.on("rope 5", 31, 0, 20, 1)));
        FetchRope z = plain(30, 0, 30, 1);
        due("9: alike", z.run(0, 1), 0);
        Bounds.alike("9: nothing changes but HOUR", z, hourLater(plain(30, 0, 30, 1)));
        due("9: told", z.told(0), 2);
    }

    /** WORN is 9900; the two pull as told. */
    private static FetchRope wornBy9900(int one, int other) {
        FetchRope x = Bounds.on(HEAVY, 99, 0, 99, 1);
        for (int i = 0; i < 10; i++) x.run(0, 1);
        due("9: WORN", x.told(1), 9900);
        Bounds.hill(x, "need 0");
        x.set(0, 0, one);
        x.set(1, 0, other);
        x.set(1, 1, 0);
        x.plan(0, 1);
        return x;
    }

    private static void worn() {
        int[][] pulls = {{49, 49}, {50, 49}, {50, 50}, {99, 99}};
        for (int[] p : pulls) {
            int both = p[0] + p[1];
            FetchRope x = wornBy9900(p[0], p[1]);
            due("22: WORN by THE PLAN, " + both + " more", x.wear(0), Math.min(9999, 9900 + both));
            due("13: 9999 does not bound it", x.best(1, 1), both);
            due("13: GAIN", x.best(1, 0), 2);
            due("9: it GOES", x.run(0, 1), 1);
            due("9: WORN, " + both + " more", x.told(1), Math.min(9999, 9900 + both));
            x.run(0, 1);
            due("9: WORN stays", x.told(1), 9999);
            due("9: RUNS go on", x.run(0, 1), 1);
            due("9: WORN stays", x.told(1), 9999);
            due("22: WORN stays", x.wear(0), 9999);
        }
    }

    /** More calls than an object is used for: what lies beyond the 512th is free, but ours to keep. */
    private static FetchRope late(int hour) {
        FetchRope x = plain(30, 0, 20, 1, 30, 0);
        while (x.told(0) < hour) x.hour();
        return x;
    }

    private static void hour() {
        for (int i = 1; i <= 400; i++) {
            if (i % 100 != 0) continue;
            FetchRope x = plain(30, 0);
            int last = 0;
            for (int k = 0; k < i; k++) last = x.hour();
            due("10: HOUR " + i, last, i);
            due("8: HOUR " + i, x.told(0), i);
        }
        FetchRope y = Bounds.rich();
        int before = y.told(0);
        int sides = y.told(5);
        due("10: HOUR", y.hour(), before + 1);
        due("10: no RUN", y.told(5), sides);
        FetchRope z = late(9998);
        due("10: the last HOUR", z.hour(), 9999);
        due("10: HOUR is 9999", z.hour(), STATE);
        due("8: it stays", z.told(0), 9999);
        Bounds.still("10: HOUR is 9999", () -> late(9999), x -> x.hour(), STATE);
        Bounds.still("9: HOUR is 9999", () -> late(9999), x -> x.run(0, 1), STATE);
        Bounds.still("9: HOUR is 9999, one SLEDGE", () -> late(9999), x -> x.run(0, 0), BAD);
        Bounds.still("9: HOUR is 9999, no SLEDGE", () -> late(9999), x -> x.run(0, 3), NONE);
        FetchRope w = late(9998);
        due("9: at HOUR 9998", w.run(0, 1), 1);
        due("8: HOUR", w.told(0), 9999);
        FetchRope v = late(9998);
        due("9: none goes at HOUR 9998", v.run(2, 1) + (v.told(0) == 9999 ? 10 : 0), 11);
    }

    private static void lateHours() {
        // 9999 is 3 modulo 12; what is asked goes on to HOURS beyond it.
        FetchRope x = late(9999);
        x.set(1, 1, 0);
        Bounds.hill(x, "snow 9 s=0&h=5;slush 8 s=1&h=4;need 19");
        due("15: two HOURS beyond 9999", x.when(0, 1), 2);
        due("14: beyond 9999", x.never(), 4);
        due("16: now none goes", x.can(0, 3), 0);
        due("13: two HOURS from 9999 on", x.best(2, 0), 0);
        due("13: three HOURS from 9999 on", x.best(3, 0), 2);
        due("13: at HOUR 10001", x.best(3, 12), 1);
        for (int i = 0; i < 3; i++) x.plan(0, 1);
        due("22: the third, at HOUR 10001", x.wear(0), 59);
        due("22: two do not GO", x.wear(1), 2);
        Bounds.hill(x, "snow 9 s=0&h=4;need 19");
        x.dusk(1);
        due("18: not at HOUR 9999", x.runs(1, 0), 0);
        due("20: at HOUR 10000", x.price(0), 2);
        Bounds.hill(x, "slush 9 s=2&h=4;need 10");
        x.dusk(4);
        due("18: at HOURS 9999 and 10000", x.runs(2, 0), 0);
        Bounds.hill(x, "snow 9 s=2&h=4;need 9");
        due("18: at HOURS 9999 and 10000", x.runs(2, 0), 1);
    }

    /** One of seven that goes from one SIDE only: PULLS are by the SIDES on which the SLEDGES are then. */
    private static void bySides() {
        for (int s = 0; s < 7; s++) {
            for (int side = 0; side <= 1; side++) {
                String name = "term 1: " + s + " from SIDE " + side;
                FetchRope x = new FetchRope();
                int other = (s + 3) % 7;
                for (int i = 0; i < 7; i++) {
                    int at = i == s ? side : 1 - side;
                    x.sledge(0, 0, 30, at, i == s || i == other ? 1 - at : at, 1);
                }
                due(name, Bounds.hill(x, "snow 7 d=" + side + "&s=" + s + ";need 7"), 0);
                int sides = x.told(5);
                int over = sides ^ 1 << s ^ 1 << other;
                int pair = 10 * Math.min(s, other) + Math.max(s, other);
                due(name + ": with", x.with(s), 127 ^ 1 << s);
                due(name + ": with it", x.with(other), 1 << s);
                due(name + ": never", x.never(), 0);
                due(name + ": can", x.can(s, 1), 1);
                due(name + ": can", x.can(other, 3), 1);
                x.dusk(over);
                due(name + ": runs", x.runs(1, 0), 1);
                due(name + ": runs", x.runs(1, 1), pair);
                due(name + ": no way on", x.runs(3, 0), 0);
                x.dusk(sides);
                due(name + ": no way back", x.runs(2, 0), 0);
                due(name + ": two", x.two(0), 0);
                due(name + ": best", x.best(1, 0), 7);
                due(name + ": best", x.best(1, 10), pair);
                due(name + ": best of 4", x.best(4, 0), 7);
                due(name + ": best of 4", x.best(4, 1), 67);
                due(name + ": price", x.price(s), 2);
                due(name + ": price", x.price(other), 2);
                x.plan(s, other);
                x.plan(other, s);
                worn(name + ": wear", x, 67, 1, 1);
                due(name + ": run", x.run(other, s), 1);
                due(name + ": WORN", x.told(1), 67);
                due(name + ": never", x.never(), 127);
                due(name + ": not back", x.run(other, s), 0);
            }
        }
    }

    private static void with() {
        strangers("11", (x, s) -> x.with(s), NONE);
        FetchRope x = plain(30, 0, 29, 1, 30, 1, 31, 1, 20, 0, 60, 0, 70, 1);
        due("11: all but the like of it", x.with(0), 2 | 8 | 64);
        due("11: none of its SIDE", x.with(5), 2 | 4 | 8 | 64);
        Bounds.hill(x, "need 2");
        due("11: need 2", x.with(0), 64);
        Bounds.hill(x, "need 0;rope 6");
        due("11: ROPE 60", x.with(0), 2 | 4);
        due("11: none", plain(30, 0).with(0), 0);
        due("11: all on one SIDE", plain(30, 0, 40, 0).with(0), 0);
    }

    private static void ballast() {
        for (int what = 0; what <= 1; what++) {
            int asked = what;
            strangers("12: one, what " + what, (x, s) -> x.ballast(s, s == 0 ? 1 : 0, asked), NONE);
            strangers("12: other, what " + what, (x, s) -> x.ballast(s == 0 ? 1 : 0, s, asked), NONE);
            strangers("12: NONE ahead of BAD", (x, s) -> x.ballast(s, s, asked), NONE);
            Bounds.still("12: one SLEDGE", Bounds::rich, x -> x.ballast(5, 5, asked), BAD);
            Bounds.still("12: on one SIDE", () -> plain(30, 0, 20, 0), x -> x.ballast(0, 1, asked), ABSENT);
        }
        for (int what : new int[] {-1, 2, MIN, MAX}) {
            Bounds.still("12: what " + what, Bounds::rich, x -> x.ballast(0, 1, what), NONE);
            Bounds.still("12: what " + what + ", one SLEDGE", Bounds::rich, x -> x.ballast(0, 0, what), NONE);
            Bounds.still("12: what " + what + ", on one SIDE", () -> plain(30, 0, 20, 0), x -> x.ballast(0, 1, what), NONE);
        }
        least("12: it GOES now", Bounds.on("need 10", 30, 0, 20, 1), 0, 0);
        least("12: 1 more", Bounds.on("need 11", 30, 0, 20, 1), 1, 0);
        least("12: 1 more on the other", Bounds.on("need 11", 20, 0, 30, 1), 1, 1);
        least("12: both alike, the one told first", Bounds.on("need 5", 30, 0, 30, 1), 5, 0);
        due("12: both alike, the one told first", Bounds.on("need 5", 30, 0, 30, 1).ballast(1, 0, 1), 1);
        due("12: 0 on both, the one told first", Bounds.on("need 5", 30, 0, 20, 1).ballast(1, 0, 1), 1);
        least("12: 98", Bounds.on("need 99", 1, 0, 0, 1), 98, 0);
        least("12: 99", Bounds.on("need 99", 0, 0, 0, 1), 99, 0);
        least("12: 40, ROPE just met", Bounds.on("need 40;rope 4", 0, 0, 0, 1), 40, 0);
        least("12: 41, ROPE not met", Bounds.on("need 41;rope 4", 0, 0, 0, 1), ABSENT, ABSENT);
        least("12: ROPE is too weak from the first", Bounds.on("need 0;rope 5", 30, 0, 21, 1), ABSENT, ABSENT);
        least("12: ROPE is met from the first", Bounds.on("need 0;rope 5", 30, 0, 20, 1), 0, 0);
        FetchRope x = new FetchRope();
        x.sledge(0, 0, 10, 0, 0, 0);
        x.sledge(5, 9, 99, 1, 0, 0);
        due("12: by PULL, not LOAD", x.ballast(0, 1, 0), 0);
        Bounds.hill(x, "need 3");
        due("12: by PULL, not LOAD", x.ballast(0, 1, 0), 2);
    }

    private static void least(String name, FetchRope x, int much, int which) {
        due(name + ": how much", x.ballast(0, 1, 0), much);
        due(name + ": on which", x.ballast(0, 1, 1), which);
        if (much >= 0) due(name + ": how much, told the other way", x.ballast(1, 0, 0), much);
    }

    private static void best() {
        for (int what : new int[] {-1, 2, 3, 9, 14, 15, MIN, MAX}) {
            Bounds.still("13: what " + what, Bounds::rich, x -> x.best(4, what), NONE);
            Bounds.still("13: what " + what + " and a bad n", Bounds::rich, x -> x.best(5, what), NONE);
        }
        for (int n : new int[] {-1, 5, MIN, MAX}) {
            for (int what : new int[] {0, 1, 10, 13}) Bounds.still("13: n " + n + ", what " + what, Bounds::rich, x -> x.best(n, what), BAD);
        }
        // One way there, one HOUR each: what is wanted comes 0 to 4 HOURS from now.
        for (int s = 0; s <= 1; s++) {
            FetchRope x = Bounds.on("need 5;snow 5 s=" + s + "&h=3", 20, 0, 20, 1);
            x.set(1, 1, 0);
            for (int n : new int[] {0, 1, 2, 3, 4, 3, 2, 1, 0}) {
                due("13: GAIN of " + n, x.best(n, 0), n == 4 ? 2 : 0);
                due("13: WORN of " + n, x.best(n, 1), n == 4 ? 45 : 0);
                for (int k = 0; k <= 3; k++) due("13: the " + k + " of " + n, x.best(n, 10 + k), k >= n ? ABSENT : k == 3 ? 1 : 99);
            }
        }
        FetchRope y = new FetchRope();
        for (int i = 0; i < 7; i++) y.sledge(0, 0, 10 * i, i == 6 ? 1 : 0, i == 5 ? 1 : 0, i);
        due("13: the last pair", y.best(1, 10), 56);
        due("13: the last pair", y.best(1, 0), 21);
        due("13: the last pair", y.best(1, 1), 110);
    }

    private static void bestOfSeveral() {
        FetchRope x = plain(30, 0, 20, 1, 10, 0);
        x.set(1, 1, 0);
        due("13: 0 and 2 alike by GAIN: the one by which WORN is least", x.best(1, 10), 12);
        due("13: WORN", x.best(1, 1), 30);
        x.set(0, 0, 10);
        due("13: alike by WORN too: the first pair", x.best(1, 10), 1);
        x.set(0, 0, 11);
        due("13: one more", x.best(1, 10), 12);
        FetchRope y = Bounds.on("need 0", 0, 0, 0, 1);
        y.set(0, 1, 0);
        y.set(1, 1, 1);
        due("13: GAIN stays if none has a RUN", y.best(1, 10), 99);
        due("13: there and back is ahead of none", y.best(2, 10), 1);
        due("13: there and back is ahead of none", y.best(2, 11), 1);
        y.set(0, 0, 1);
        due("13: but WORN is more", y.best(2, 10), 99);
        y.set(0, 0, 0);
        y.set(0, 1, 1);
        y.set(1, 1, 0);
        y.run(0, 1);
        y.set(0, 1, 0);
        y.set(1, 1, 1);
        due("8: no GAIN", y.told(2), 0);
        due("13: back is more than none", y.best(1, 0), 2);
        FetchRope w = new FetchRope();
        w.sledge(0, 0, 0, 0, 0, 0);
        w.sledge(0, 0, 0, 1, 0, 0);
        Bounds.hill(w, "need 0");
        due("13: no GAIN, no WORN: a pair is ahead of none", w.best(1, 10), 1);
        due("13: no GAIN, no WORN", w.best(1, 1), 0);
        for (int side = 0; side <= 1; side++) {
            FetchRope v = plain(30, side, 20, side, 10, side);
            due("13: all on SIDE " + side, v.best(4, 0), 3 * side);
            due("13: all on SIDE " + side, v.best(4, 13), 99);
            due("20: all on SIDE " + side, v.price(1), side);
        }
        FetchRope z = plain(0, 0, 0, 1);
        due("13: without a RUN that GOES", z.best(4, 10), 99);
        due("13: without a RUN that GOES", z.best(4, 13), 99);
        due("13: GAIN as it is", z.best(4, 0), 1);
    }

    private static void never() {
        due("14: of none", new FetchRope().never(), 0);
        due("14: of one", plain(30, 0).never(), 1);
        due("14: two that go", plain(30, 0, 20, 1).never(), 0);
        due("14: two alike", plain(30, 0, 30, 1).never(), 3);
        for (int hour = 0; hour <= 11; hour++) {
            FetchRope x = Bounds.on("need 5;snow 5 s=0&h=" + hour, 30, 0, 30, 1, 30, 0);
            due("14: at HOUR " + hour + " alone", x.never(), 4);
            for (int i = 0; i <= hour; i++) x.hour();
            due("14: 11 more", x.never(), 4);
        }
        due("14: at no HOUR", Bounds.on("need 5;snow 5 s=0&h=12", 30, 0, 30, 1).never(), 3);
        due("14: the others stay where they are", Bounds.on("need 10;rope 7", 30, 0, 30, 1, 40, 0).never(), 1);
        Bounds.quiet("14", Bounds::rich, x -> x.never());
    }

    private static void when() {
        strangers("15: one", (x, s) -> x.when(s, s == 0 ? 1 : 0), NONE);
        strangers("15: other", (x, s) -> x.when(s == 0 ? 1 : 0, s), NONE);
        strangers("15: NONE ahead of BAD", (x, s) -> x.when(s, s), NONE);
        Bounds.still("15: one SLEDGE", Bounds::rich, x -> x.when(3, 3), BAD);
        Bounds.still("15: on one SIDE", () -> plain(30, 0, 20, 0), x -> x.when(0, 1), ABSENT);
        Bounds.still("15: never", () -> plain(30, 0, 30, 1), x -> x.when(0, 1), ABSENT);
        for (int hour = 0; hour <= 11; hour++) {
            FetchRope x = Bounds.on("need 5;snow 5 s=0&h=" + hour, 30, 0, 30, 1);
            for (int now = 0; now <= 13; now++) {
                due("15: from HOUR " + now + " to " + hour, x.when(1, 0), (hour + 24 - now) % 12);
                x.hour();
            }
        }
        FetchRope y = new FetchRope();
        y.sledge(6, 0, 30, 0, 0, 0);
        y.sledge(5, 5, 70, 1, 0, 0);
        y.row(0, 2, 3);
        Bounds.hill(y, "need 3");
        // 35 and 30 or 33: apart by 3 or more at once, but for CHILD's 5 at HOUR 0: 25 apart.
        due("15: now", y.when(0, 1), 0);
        y.set(1, 0, 66);
        Bounds.hill(y, "need 4;rope 6;slush 30 k=5&h<99");
        due("15: ROPE is by the HOUR too", y.when(0, 1), 0);
    }

    private static void can() {
        for (int n = 0; n <= 3; n++) {
            int runs = n;
            strangers("16: n " + n, (x, s) -> x.can(s, runs), NONE);
        }
        strangers("16: NONE ahead of BAD", (x, s) -> x.can(s, s >= 0 && s <= 5 || x.count(0) == 7 && s == 6 ? 3 : 4), NONE);
        for (int n : new int[] {-1, 4, MIN, MAX}) Bounds.still("16: n " + n, Bounds::rich, x -> x.can(0, n), BAD);
        // 0 and 2 are too much for the ROPE; 0 outweighs 1 by enough at HOUR 2 alone, when 2 has fetched 1 and come back.
        FetchRope x = Bounds.on("snow 9 s=0&h=2;need 19;rope 8", 30, 0, 20, 1, 60, 0);
        for (int n = 0; n <= 3; n++) due("16: 0 by " + n, x.can(0, n), n == 3 ? 1 : 0);
        for (int n = 0; n <= 3; n++) due("16: 1 by " + n, x.can(1, n), n >= 1 ? 1 : 0);
        x.hour();
        due("16: an HOUR later", x.can(0, 3), 0);
        x.hour();
        for (int n = 0; n <= 3; n++) due("16: two HOURS later, by " + n, x.can(0, n), n >= 1 ? 1 : 0);
        FetchRope y = Bounds.on("need 4", 30, 0, 30, 1, 35, 0, 28, 1);
        for (int n = 0; n <= 3; n++) due("16: by one RUN ahead of it: " + n, y.can(0, n), n >= 2 ? 1 : 0);
        due("16: alone", plain(30, 0).can(0, 3), 0);
        for (int side = 0; side <= 1; side++) {
            FetchRope z = plain(30, side, 20, side);
            z.dusk(3 * side);
            for (int n = 0; n <= 3; n++) {
                due("18: all on SIDE " + side + ", " + n, z.runs(n, 0), n == 0 ? 1 : 0);
                due("16: all on SIDE " + side + ", by " + n, z.can(0, n), 0);
                due("18: all on SIDE " + side + ", " + n, z.runs(n, 1), n == 0 ? 99 : ABSENT);
            }
        }
        due("16: there and back by fewer", plain(30, 0, 20, 1).can(0, 2), 1);
    }

    // ---- dusk, ropes, plans

    private static void dusk() {
        for (int count = 0; count <= 7; count++) {
            int[] pairs = new int[2 * count];
            int all = (1 << count) - 1;
            FetchRope x = plain(pairs);
            due("17: all of " + count, x.dusk(all), 0);
            due("17: none of " + count, x.dusk(0), all);
            if (count > 0) due("17: the last of " + count, x.dusk(1 << count - 1), 0);
            for (int bits : new int[] {all + 1, -1, MIN, MAX, all + 1 | 1, 256}) {
                if (bits != all) Bounds.still("17: bits " + bits + " of " + count, () -> plain(pairs), y -> y.dusk(bits), BAD);
            }
        }
        Bounds.still("17: bits 64 of six", Bounds::rich, x -> x.dusk(64), BAD);
        Bounds.still("17: bits 128 of seven", Bounds::full, x -> x.dusk(128), BAD);
        due("17: what it was", Bounds.rich().dusk(63), 9);
        FetchRope x = plain(30, 0);
        x.image();
        x.sledge(0, 0, 20, 1, 0, 0);
        x.dusk(2);
        x.undo();
        due("17: of a SLEDGE that is no more", x.dusk(2), BAD);
        due("17: as THE IMAGE", x.dusk(1), 0);
    }

    private static void runs() {
        for (int what : new int[] {-1, 2, MIN, MAX}) {
            Bounds.still("18: what " + what, Bounds::rich, x -> x.runs(0, what), NONE);
            Bounds.still("18: what " + what + " and a bad n", Bounds::rich, x -> x.runs(4, what), NONE);
        }
        for (int n : new int[] {-1, 4, MIN, MAX}) {
            for (int what = 0; what <= 1; what++) {
                int asked = what;
                Bounds.still("18: n " + n, Bounds::rich, x -> x.runs(n, asked), BAD);
            }
        }
        FetchRope x = plain(30, 0, 20, 1);
        int[][] due = {{0, 1, 0, 1}, {1, 0, 1, 0}, {0, 0, 0, 0}, {0, 0, 0, 0}};
        int[] dusks = {1, 2, 0, 3};
        for (int i = 0; i < 4; i++) {
            x.dusk(dusks[i]);
            for (int n = 0; n <= 3; n++) {
                due("18: " + n + " to DUSK " + dusks[i], x.runs(n, 0), due[i][n]);
                due("18: its first pair", x.runs(n, 1), due[i][n] == 0 ? ABSENT : n == 0 ? 99 : 1);
            }
        }
        // Three on SIDE 0, four on SIDE 1, each of which goes with each.
        FetchRope y = new FetchRope();
        for (int i = 0; i < 7; i++) y.sledge(0, 0, 10 * i, i % 2 == 0 ? 1 : 0, 0, 0);
        y.dusk(0b1010101);
        due("18: as it is", y.runs(0, 0), 1);
        due("18: there and back", y.runs(2, 0), 12);
        due("18: there and back, the first pair", y.runs(2, 1), 1);
        due("18: three pairs and back: by which is moved on", y.runs(3, 0), 12 * (2 + 3));
        y.dusk(0b0111100);
        due("18: two over, two over", y.runs(2, 0), 4);
        due("18: the first of the four", y.runs(2, 1), 3);
        due("18: but one RUN", y.runs(1, 0), 0);
        due("18: but one RUN", y.runs(1, 1), ABSENT);
        // One each HOUR from now on.
        FetchRope z = Bounds.on("need 5;snow 5 s=0&h=1", 30, 0, 30, 1);
        z.dusk(1);
        due("18: not at this HOUR", z.runs(1, 0), 0);
        z.hour();
        due("18: at this HOUR", z.runs(1, 0), 1);
    }

    private static void two() {
        for (int what : new int[] {-1, 2, MIN, MAX}) {
            Bounds.still("19: what " + what, Bounds::rich, x -> x.two(what), -1002);
            Bounds.still("19: what " + what, Bounds::fresh, x -> x.two(what), -1002);
        }
        FetchRope[] none = {new FetchRope(), plain(30, 0), plain(30, 0, 20, 1), plain(30, 0, 20, 1, 10, 0), plain(30, 0, 20, 1, 10, 0, 40, 0),
            Bounds.on("need 11", 30, 0, 20, 1, 40, 0, 30, 1), plain(5, 0, 6, 0, 7, 0, 8, 0, 9, 0)};
        for (FetchRope x : none) {
            due("19: no way", x.two(0), 0);
            due("19: no way, the most", x.two(1), -1001);
        }
        FetchRope x = plain(30, 0, 20, 1, 40, 0, 10, 1);
        due("19: four, two ways", x.two(0), 2);
        due("19: two more come than go", x.two(1), 0);
        Bounds.hill(x, "need 11");
        due("19: 0 and 3, 1 and 2", x.two(0), 1);
        Bounds.hill(x, "need 21");
        due("19: 0 and 3 no more", x.two(0), 0);
        for (int pairs = 0; pairs < 7 * 7 * 7 * 7; pairs++) {
            int one = pairs % 7;
            int other = pairs / 7 % 7;
            int next = pairs / 49 % 7;
            int last = pairs / 343;
            if (one < next && one != other && one != last && other != next && other != last && next != last) oneWay(one, other, next, last);
        }
        FetchRope y = new FetchRope();
        for (int i = 0; i < 4; i++) y.sledge(0, 0, 10 * i, i % 2, i % 2, 99);
        due("19: the most is below 0", y.two(1), -4 * 99);
        for (int i = 0; i < 4; i++) y.set(i, 1, 1 - i % 2);
        due("19: the most", y.two(1), 4 * 99);
        FetchRope z = new FetchRope();
        for (int i = 0; i < 7; i++) z.sledge(0, 0, 10 * i, i % 2, 0, i);
        due("19: of seven", z.two(0), 3 * 12);
        due("19: the most of seven", z.two(1), 8 - 2);
    }

    /** One with other and next with last is the only way: the rest is too much for the ROPE. */
    private static void oneWay(int one, int other, int next, int last) {
        String name = "19: " + one + " with " + other + ", " + next + " with " + last;
        FetchRope x = new FetchRope();
        for (int i = 0; i < 7; i++) {
            boolean goes = i == one || i == other || i == next || i == last;
            int side = i == other || i == last ? 1 : 0;
            x.sledge(0, 0, !goes ? 99 : i == one || i == last ? 50 : 40, side, 1 - side, 1 << i);
        }
        due(name, Bounds.hill(x, "rope 9"), 0);
        int worth = (1 << one) + (1 << other) + (1 << next) + (1 << last);
        due(name + ": ways", x.two(0), 1);
        due(name + ": the most", x.two(1), worth);
        x.set(last, 1, 1);
        due(name + ": one leaves its GOAL", x.two(1), worth - (2 << last));
        x.set(other, 0, 41);
        due(name + ": too much for the ROPE", x.two(0), 0);
        due(name + ": no way", x.two(1), -1001);
    }

    private static void price() {
        strangers("20", (x, s) -> x.price(s), -1001);
        // Alone, on its GOAL or not.
        FetchRope x = plain(30, 1, 30, 0);
        due("20: on its GOAL", x.price(0), 1);
        due("20: not on its GOAL", x.price(1), 0);
        for (int hour = 0; hour <= 2; hour++) {
            FetchRope y = Bounds.on("need 5;snow 5 s=0&h=" + hour, 30, 0, 30, 1);
            y.set(1, 1, 0);
            due("20: of 2 HOURS, at HOUR " + hour, y.price(0), hour <= 1 ? 2 : 0);
        }
        // The others keep their numbers, though 0 is not there.
        FetchRope z = Bounds.on("need 5;snow 5 s=2", 30, 0, 30, 0, 30, 1);
        z.set(0, 1, 0);
        z.set(2, 1, 0);
        due("20: 2 still fetches 1", z.price(0), 1);
        Bounds.hill(z, "need 5;snow 5 s=2;snow 5 s=1");
        due("20: 2 and 1 are alike, 0 alone fetched both", z.price(0), 3);
        // By each of 2 HOURS two of the others come, and 0 for one of them.
        FetchRope w = new FetchRope();
        for (int i = 0; i < 7; i++) w.sledge(0, 0, 10 * i, i % 2, 1 - i % 2, i == 0 ? 9 : 1);
        due("20: with it 12, without it 4", w.price(0), 8);
        due("20: with it 12, without it 12", w.price(3), 0);
        due("20: 7 of them", Bounds.full().price(6) >= 0 ? 1 : 0, 1);
    }

    private static void plan() {
        strangers("21: other", (x, s) -> x.count(2) == 12 ? (s == 7 ? x.plan(1, s) : 0) : x.plan(s == 0 ? 1 : 0, s), NONE);
        for (int one : new int[] {-2, 6, 7, MIN, MAX}) {
            for (int other : new int[] {0, 6, -1, one}) Bounds.still("21: one " + one + ", other " + other, Bounds::rich, x -> x.plan(one, other), NONE);
        }
        for (int s = 0; s <= 5; s++) {
            int one = s;
            Bounds.still("21: one SLEDGE", Bounds::rich, x -> x.plan(one, one), BAD);
        }
        Bounds.still("21: a thirteenth", Bounds::full, x -> x.plan(0, 1), FULL);
        Bounds.still("21: a thirteenth of no SLEDGE", Bounds::full, x -> x.plan(0, 7), NONE);
        Bounds.still("21: a thirteenth of one SLEDGE", Bounds::full, x -> x.plan(3, 3), BAD);
        for (int other : new int[] {-1, 0, 6, 7, MIN, MAX}) {
            FetchRope x = Bounds.full();
            due("21: none then, other " + other, x.plan(-1, other), 0);
            due("33: pairs", x.count(2), 0);
            due("22: none does not GO", x.wear(2), ABSENT);
            for (int n = 1; n <= 12; n++) due("21: pair " + n, x.plan(0, 1), n);
            due("21: a thirteenth", x.plan(0, 1), FULL);
            due("33: pairs", x.count(2), 12);
        }
        due("21: none of none", new FetchRope().plan(-1, -1), 0);
        due("21: on one SIDE is told, too", plain(30, 0, 20, 0).plan(0, 1), 1);
    }

    private static void wear() {
        for (int what : new int[] {-1, 3, MIN, MAX}) {
            Bounds.still("22: what " + what, Bounds::rich, x -> x.wear(what), NONE);
            Bounds.still("22: what " + what, Bounds::fresh, x -> x.wear(what), NONE);
        }
        FetchRope x = plain(30, 0, 20, 1, 10, 0);
        for (int n = 1; n <= 11; n++) {
            x.plan(0, 1);
            worn("22: " + n + " that GO", x, 50 * n, 0, ABSENT);
        }
        x.plan(1, 2);
        worn("22: the twelfth is on one SIDE", x, 550, 1, 11);
        x.plan(-1, 0);
        x.plan(0, 2);
        worn("22: the first is on one SIDE", x, 0, 1, 0);
        x.plan(0, 1);
        worn("22: the second GOES", x, 50, 1, 0);
        FetchRope y = Bounds.on("need 5;snow 5 s=0&h=1", 30, 0, 30, 1);
        y.plan(0, 1);
        worn("22: at this HOUR", y, 0, 1, 0);
        y.plan(1, 0);
        worn("22: an HOUR each, one that does not GO too", y, 65, 1, 0);
        y.plan(1, 0);
        worn("22: the third", y, 65, 2, 0);
        y.hour();
        worn("22: an HOUR later", y, 65, 2, 1);
        FetchRope z = Bounds.on("snow 9 s=0&d=1;need 1", 30, 0, 20, 1);
        z.plan(0, 1);
        z.plan(0, 1);
        worn("22: by the SIDES then", z, 50 + 59, 0, ABSENT);
    }

    private static void worn(String name, FetchRope x, int worn, int not, int first) {
        due(name + ": WORN", x.wear(0), worn);
        due(name + ": how many do not", x.wear(1), not);
        due(name + ": the first", x.wear(2), first);
    }

    // ---- odds, books

    private static void odds() {
        for (int part = 0; part <= 1; part++) {
            int asked = part;
            for (int s : STRANGE) {
                Bounds.still("23: one " + s, Bounds::rich, x -> x.odds(s, 0, asked), NO);
                Bounds.still("23: other " + s, Bounds::rich, x -> x.odds(0, s, asked), NO);
                Bounds.still("23: both " + s, Bounds::rich, x -> x.odds(s, s, asked), NO);
            }
            Bounds.still("23: one SLEDGE", Bounds::rich, x -> x.odds(2, 2, asked), NO);
            Bounds.still("23: on SIDE 0", () -> plain(30, 0, 20, 0), x -> x.odds(0, 1, asked), NO);
            Bounds.still("23: on SIDE 1", () -> plain(30, 1, 20, 1), x -> x.odds(0, 1, asked), NO);
        }
        for (int part : new int[] {-1, 2, MIN, MAX}) Bounds.still("23: part " + part, () -> plain(30, 0, 20, 1), x -> x.odds(0, 1, part), NO);
        int[][] due = {{1, 1}, {9, 10}, {4, 5}, {7, 10}, {3, 5}, {1, 2}, {2, 5}, {3, 10}, {1, 5}, {1, 10}, {0, 1}};
        for (int need = 0; need <= 10; need++) {
            FetchRope x = Bounds.on("need " + need, 30, 0, 30, 1);
            due("23: need " + need + ", above", x.odds(0, 1, 0), due[need][0]);
            due("23: need " + need + ", below", x.odds(0, 1, 1), due[need][1]);
            FetchRope y = Bounds.on("need 0;rope 6", 30 - need, 0, 30, 1);
            int good = Math.min(10, need + 1) % 10;
            due("23: ROPE met up to wind " + need + ", above", y.odds(0, 1, 0), due[10 - (good == 0 ? 10 : good)][0]);
            due("23: ROPE met up to wind " + need + ", below", y.odds(1, 0, 1), due[10 - (good == 0 ? 10 : good)][1]);
        }
        FetchRope z = Bounds.on("need 0;rope 6", 31, 0, 30, 1);
        due("23: ROPE is too weak from the first", z.odds(0, 1, 0), 0);
        due("23: ROPE is too weak from the first", z.odds(0, 1, 1), 1);
        FetchRope w = Bounds.on("need 2", 30, 0, 34, 1);
        due("23: both ways: 0 .. 2 and 6 .. 9", w.odds(0, 1, 0), 7);
        due("23: on the one told first", w.odds(1, 0, 0), 1);
        due("23: on the one told first", w.odds(1, 0, 1), 1);
    }

    private static void mean() {
        for (int part : new int[] {-1, 2, MIN, MAX}) {
            Bounds.still("24: part " + part, Bounds::rich, x -> x.mean(part), NO);
            Bounds.still("24: part " + part + " of none", Bounds::fresh, x -> x.mean(part), NO);
        }
        for (int part = 0; part <= 1; part++) {
            int asked = part;
            Bounds.still("24: of none", Bounds::fresh, x -> x.mean(asked), NO);
        }
        int[][] loads = {{0}, {99}, {0, 0}, {1, 2}, {1, 3}, {0, 0, 0, 0, 0, 0, 1}, {99, 99, 99, 99, 99, 99, 99}, {1, 1, 1, 1, 1, 0}};
        int[][] due = {{0, 1}, {99, 1}, {0, 1}, {3, 2}, {2, 1}, {1, 7}, {99, 1}, {5, 6}};
        for (int i = 0; i < loads.length; i++) {
            FetchRope x = new FetchRope();
            for (int load : loads[i]) x.sledge(0, 0, load, 0, 0, 0);
            due("24: above", x.mean(0), due[i][0]);
            due("24: below", x.mean(1), due[i][1]);
        }
    }

    private static void book() {
        for (int s : STRANGE) {
            if (s == -1) continue;
            Bounds.still("25: SLEDGE " + s, Bounds::rich, x -> x.book(s, 5), NONE);
            Bounds.still("25: SLEDGE " + s + " and a bad n", Bounds::rich, x -> x.book(s, -1), NONE);
            Bounds.still("25: SLEDGE " + s + " of none", Bounds::fresh, x -> x.book(s, 5), NONE);
        }
        Bounds.still("25: a thirteenth of no SLEDGE", Bounds::full, x -> x.book(7, 5), NONE);
        for (int n : new int[] {-1, 1000, MIN, MAX}) {
            Bounds.still("25: n " + n, Bounds::rich, x -> x.book(0, n), BAD);
            Bounds.still("25: n " + n + " of a thirteenth", Bounds::full, x -> x.book(0, n), BAD);
        }
        Bounds.still("25: a thirteenth", Bounds::full, x -> x.book(0, 5), FULL);
        for (int n : new int[] {0, 1, 998, 999}) due("25: n " + n, plain(30, 0).book(0, n), 1);
        for (int n : new int[] {-1, 0, 999, 1000, MIN, MAX}) {
            FetchRope x = Bounds.full();
            due("25: empty then, n " + n, x.book(-1, n), 0);
            due("33: rows", x.count(3), 0);
            due("26: none", x.looked(), ABSENT);
            for (int k = 1; k <= 12; k++) due("25: row " + k, x.book(6, 5), k);
            due("25: a thirteenth", x.book(6, 5), FULL);
            due("33: rows", x.count(3), 12);
        }
        due("25: empty of none", new FetchRope().book(-1, 0), 0);
    }

    private static void looked() {
        FetchRope x = plain(30, 0, 20, 1);
        due("26: none", x.looked(), ABSENT);
        for (int n = 1; n <= 11; n++) {
            x.book(n % 2, n % 2 == 0 ? 30 : 20);
            due("26: as told", x.looked(), ABSENT);
        }
        x.book(1, 21);
        due("26: the twelfth is one more", x.looked(), 11);
        x.set(1, 0, 21);
        due("26: the first", x.looked(), 0);
        x.book(-1, 0);
        x.book(0, 30);
        x.book(1, 20);
        due("26: one less", x.looked(), 1);
        x.book(-1, 0);
        x.set(0, 0, 0);
        x.book(0, 0);
        due("26: 0", x.looked(), ABSENT);
        FetchRope y = new FetchRope();
        y.sledge(4, 4, 99, 0, 0, 0);
        Bounds.hill(y, HEAVY);
        y.hour();
        due("3: PULL", y.of(0, 6), 998);
        y.book(0, 998);
        due("26: 998", y.looked(), ABSENT);
        y.book(0, 999);
        due("26: 999", y.looked(), 1);
        y.hour();
        due("26: now", y.looked(), 0);
    }

    // ---- judging, the image, acts, tapes

    /** Seven SLEDGES on SIDES 0, 1, 0, 1 .., told by TAPE 0 from 2 on, in as many items. */
    private static FetchRope toBeJudged(int items) {
        FetchRope x = new FetchRope();
        for (int i = 0; i < 7; i++) x.sledge(0, 0, i, i % 2, 0, 0);
        x.tape(0, 0, items);
        for (int i = 0; i < items; i++) x.item(0, i, i % 2);
        for (int sort = 1; sort <= 4; sort++) x.tape(sort, sort, 9);
        return x;
    }

    private static void judge() {
        for (int tape : new int[] {-1, 6, MIN, MAX}) {
            Bounds.still("27: TAPE " + tape, Bounds::rich, x -> x.judge(tape, 0), NONE);
            Bounds.still("27: TAPE " + tape + " and no place", Bounds::fresh, x -> x.judge(tape, -1), NONE);
        }
        for (int sort = 1; sort <= 4; sort++) {
            int tape = sort;
            for (int i : new int[] {-1, 0, 9, MAX}) Bounds.still("27: a row of sort " + sort, () -> toBeJudged(9), x -> x.judge(tape, i), CAST);
        }
        Bounds.still("27: as told, to the last item", () -> toBeJudged(9), x -> x.judge(0, 2), ABSENT);
        Bounds.still("27: as told, from 0 on", () -> toBeJudged(9), x -> x.judge(0, 0), ABSENT);
        for (int items = 0; items <= 60; items += items == 9 ? 51 : 1) {
            int last = items;
            int looked = Math.max(0, Math.min(7, items - 2));
            Bounds.still("27: the row ends behind " + items, () -> toBeJudged(last), x -> x.judge(0, 2), looked == 7 ? ABSENT : 100 + looked);
        }
        for (int i : new int[] {-1, MIN, 60, 61, MAX, MAX - 3}) Bounds.still("27: place " + i, () -> toBeJudged(60), x -> x.judge(0, i), 100);
        due("27: place 59", toBeJudged(60).judge(0, 58), 102);
        due("27: nothing", toBeJudged(9).judge(5, 0), 100);
        for (int s = 0; s < 7; s++) {
            FetchRope x = toBeJudged(9);
            x.item(0, 2 + s, 1 - s % 2);
            due("27: the first that is otherwise: " + s, x.judge(0, 2), s);
            x.item(0, 8, 7);
            due("27: the first of two", x.judge(0, 2), s);
            FetchRope y = toBeJudged(3 + s);
            y.item(0, 2 + s, 1 - s % 2);
            due("27: otherwise in the last item", y.judge(0, 2), s);
        }
        FetchRope z = toBeJudged(9);
        for (long v : new long[] {2, -1, 127, 257 + 1}) {
            z.item(0, 5, v);
            due("27: a byte that is no SIDE", z.judge(0, 2), 3);
        }
        z.item(0, 5, 257);
        due("27: a byte of 257", z.judge(0, 2), ABSENT);
        FetchRope none = new FetchRope();
        none.tape(0, 0, 0);
        none.tape(1, 0, 9);
        for (int i : new int[] {-1, 0, 9, MIN, MAX}) {
            for (int tape : new int[] {0, 1, 5}) due("27: there is none to look at", none.judge(tape, i), ABSENT);
        }
    }

    private static void image() {
        Bounds.still("29: there is none", Bounds::fresh, x -> x.undo(), STATE);
        Bounds.still("29: there is none", () -> plain(30, 0, 20, 1), x -> x.undo(), STATE);
        FetchRope x = new FetchRope();
        due("28: of none", x.image(), 0);
        for (int i = 0; i < 7; i++) x.sledge(i, 0, 0, 0, 0, 0);
        due("29: of none", x.undo(), 0);
        due("33: SLEDGES", x.count(0), 0);
        for (int i = 0; i < 7; i++) due("2: anew", x.sledge(i, 0, 0, 0, 0, 0), i);
        due("28: of seven", x.image(), 7);
        due("29: of seven", x.undo(), 7);
        due("29: again", x.undo(), 7);
        due("2: an eighth", x.sledge(0, 0, 0, 0, 0, 0), FULL);
        FetchRope y = plain(30, 0);
        y.image();
        y.set(0, 0, 40);
        y.image();
        y.set(0, 0, 50);
        y.undo();
        due("29: the newest IMAGE", y.of(0, 2), 40);
        Bounds.quiet("28: an IMAGE of what THE IMAGE is", Bounds::full, z -> z.image());
    }

    interface Change { void on(FetchRope x); }

    /** The change is seen, and gone behind undo(). */
    private static void gone(String name, Change change) {
        FetchRope x = pictured();
        change.on(x);
        x.undo();
        Bounds.alike("29: " + name, x, pictured());
        FetchRope y = pictured();
        change.on(y);
        y.image();
        FetchRope z = pictured();
        change.on(z);
        y.hour();
        y.sledge(0, 0, 0, 0, 0, 0);
        y.set(0, 0, 77);
        y.undo();
        z.image();
        Bounds.alike("28: " + name, y, z);
    }

    private static FetchRope pictured() {
        FetchRope x = Bounds.rich();
        x.image();
        return x;
    }

    private static void imageHolds() {
        gone("a SLEDGE", x -> x.sledge(6, 1, 2, 1, 1, 3));
        gone("a SLEDGE and its ROW", x -> { x.sledge(6, 1, 2, 1, 1, 3); x.row(6, 2, 9); });
        gone("LOAD", x -> x.set(1, 0, 99));
        gone("GOAL", x -> x.set(1, 1, 1));
        gone("ROW", x -> x.row(5, 2, 0));
        gone("SIDES, WORN and HOUR", x -> x.run(0, 1));
        gone("HOUR", x -> x.hour());
        gone("DUSK", x -> x.dusk(50));
        gone("a pair of THE PLAN", x -> x.plan(4, 5));
        gone("THE PLAN", x -> x.plan(-1, 0));
        gone("a like PLAN of other pairs", x -> { x.plan(-1, 0); x.plan(2, 1); x.plan(4, 5); x.plan(5, 0); });
        gone("a row of the BOOK", x -> x.book(5, 5));
        gone("the BOOK", x -> x.book(-1, 0));
        gone("a like BOOK of other rows", x -> { x.book(-1, 0); x.book(0, 47); x.book(5, 30); x.book(4, 999); });
    }

    private static void imageLeaves() {
        FetchRope x = Bounds.rich();
        x.image();
        due("7: a third HILL", Bounds.hill(x, ";rope 1"), 2);
        due("8: it holds", x.told(4), 10);
        x.undo();
        due("29: which HILL holds is as THE IMAGE", x.told(4), 990);
        due("29: need", x.told(3), 3);
        due("29: HILLS stay", x.count(1), 3);
        due("7: the next number", Bounds.hill(x, "need 4"), 3);
        x.undo();
        Bounds.feed(x, "ro");
        x.undo();
        due("29: THE TEXT stays", x.count(4), 2);
        due("7: and goes on", Bounds.hill(x, "pe 7"), 4);
        x.tape(0, 2, 2);
        x.item(0, 1, 99);
        x.undo();
        due("29: TAPES stay", x.read(0, 1), 99);
        x.act(0, 0, 5);
        x.undo();
        due("29: THE TRACE stays", x.count(5), 1);
        due("29: THE TRACE stays", x.trace(0), 10);
        FetchRope y = plain(50, 0);
        y.image();
        Bounds.hill(y, "snow 9 s=0;need 3;rope 5");
        y.undo();
        due("29: no HILL held: PULL", y.of(0, 6), 50);
        due("29: no HILL held: need", y.told(3), 1);
        due("29: no HILL held: ROPE", y.told(4), 990);
        due("29: HILLS stay", y.count(1), 1);
        FetchRope z = plain(50, 0);
        for (int n = 0; n < 6; n++) {
            Bounds.hill(z, "need " + (n + 2));
            if (n == 2) z.image();
        }
        z.undo();
        due("29: the third of six holds", z.told(3), 4);
        due("7: and no seventh comes", Bounds.hill(z, "need 1"), FULL);
    }

    private static void act() {
        for (int s : STRANGE) {
            FetchRope x = Bounds.rich();
            due("33: bodies", x.count(5) > 0 ? 1 : 0, 1);
            due("30: SLEDGE " + s, x.act(s, 0, 5), 0);
            due("30: no TRACE then", x.count(5), 0);
            due("31: no TRACE then", x.trace(0), NONE);
            due("30: SLEDGE " + s + " of none", new FetchRope().act(s, 0, 5), 0);
        }
        for (int act : new int[] {-1, 3, MIN, MAX}) {
            FetchRope x = Bounds.rich();
            due("30: act " + act, x.act(0, act, 5), 0);
            due("30: no TRACE then", x.count(5), 0);
            due("31: no TRACE then", x.trace(0), NONE);
        }
        Bounds.still("30: nothing else changes", Bounds::rich, x -> x.act(0, 3, 5) + 0 * x.act(5, 2, 7), 0);
        FetchRope x = new FetchRope();
        for (int i = 0; i < 7; i++) x.sledge(0, 9 - i, 0, 0, 0, 0);
        for (int i = 0; i < 7; i++) {
            due("30: slides of " + i, x.act(i, 0, 5), 5 + i);
            due("33: bodies", x.count(5), 1);
            due("30: pulls of " + i, x.act(i, 1, 5), 5 + i - (9 - i));
            due("33: bodies", x.count(5), 2);
            due("30: tells of " + i, x.act(i, 2, 5), 2 * (5 + i - (9 - i)));
            due("33: bodies", x.count(5), 3);
        }
        Bounds.still("30: an ACT changes THE TRACE alone", Bounds::rich, y -> 0 * y.act(4, 1, 5) + 0 * y.act(5, 2, 7), 0);
    }

    /** Each KIND has its number, and v 9. */
    private static FetchRope actors() {
        FetchRope x = new FetchRope();
        for (int kind = 0; kind < 7; kind++) x.sledge(kind, 9, 0, 0, 0, 0);
        return x;
    }

    private static void actsWrap() {
        FetchRope x = actors();
        for (int n : new int[] {MIN, MIN + 1, MIN + 8, -1, 0, 1, MAX / 3, MAX / 3 + 1, MAX / 2, MAX - 9, MAX - 3, MAX - 1, MAX}) {
            due("30: 10", x.act(0, 0, n), n);
            due("30: 10 of a BRAKED one", x.act(3, 0, n), n + 3);
            due("30: 30 of a CHILD", x.act(5, 0, n), n * 3 + 5);
            due("30: 11 of an EMPTY one", x.act(2, 1, n), n * 3 + 2 - 9);
            due("30: 11 of a BRAKED one", x.act(3, 1, n), n + 3 - 9);
            due("30: 11 of a CHILD", x.act(5, 1, n), n * 3 + 5 - 9);
            due("30: 12 of a LADEN one", x.act(1, 2, n), ((n + 1 - 9) ^ 6) * 2);
            due("30: 12 of an EMPTY one", x.act(2, 2, n), (n * 3 + 2 - 9) * 2);
            due("30: 12 of a GIFT", x.act(4, 2, n), ((-(n + 1 + 4) - 9) ^ 6) * 2);
            due("30: 10", x.act(1, 0, n), n + 1);
            due("30: 11", x.act(0, 1, n), n - 9);
            due("30: 12", x.act(0, 2, n), (n - 9) * 2);
            due("30: 20", x.act(1, 1, n), (n + 1 - 9) ^ 6);
            due("30: 30", x.act(2, 0, n), n * 3 + 2);
            due("30: 40", x.act(3, 2, n), (n + 3 - 9) * 2 + (1 + 3 - 9));
            due("30: 50", x.act(4, 0, n), -(n + 4));
            due("30: 51", x.act(4, 1, n), (-(n + 1 + 4) - 9) ^ 6);
            due("30: 60", x.act(5, 2, n), (((n - 5) * 3 + 5) - 9) * 2);
            due("30: 71", x.act(6, 0, n), (n + 6) ^ 9);
            due("30: 70", x.act(6, 1, n), ((n + 6) ^ 9) - 9 + (2 + 6));
            due("30: 40 of a TOLD one", x.act(6, 2, n), (((n + 6) ^ 9) - 9 + 8) * 2 + (((1 + 6) ^ 9) - 9 + 8));
        }
        due("30: -MIN", x.act(4, 0, MAX - 3), MIN);
        due("30: MAX and 1", x.act(1, 0, MAX), MIN);
    }

    private static void trace() {
        for (int i : new int[] {-1, MIN, MAX, 12, 19, 20, 21}) Bounds.still("31: body " + i, Bounds::rich, x -> x.trace(i), NONE);
        FetchRope x = actors();
        int[] longest = {40, 12, 70, 11, 71, 10, 10, 70, 11, 71, 10, 10};
        x.act(6, 2, 1);
        due("33: bodies", x.count(5), 12);
        for (int i = 0; i < 12; i++) due("31: body " + i, x.trace(i), longest[i]);
        due("31: body 12", x.trace(12), NONE);
        x.act(0, 0, 1);
        due("31: of the latest act alone", x.trace(0), 10);
        due("31: of the latest act alone", x.trace(1), NONE);
        due("33: bodies", x.count(5), 1);
    }

    private static void taken() {
        for (int k : new int[] {-1, 7, MIN, MAX}) {
            Bounds.still("32: k " + k, Bounds::rich, x -> x.taken(0, k), BAD);
            Bounds.still("32: k " + k + " and no SLEDGE", Bounds::rich, x -> x.taken(6, k), BAD);
        }
        for (int k = 0; k <= 6; k++) {
            int kind = k;
            for (int s : STRANGE) Bounds.still("32: SLEDGE " + s, Bounds::rich, x -> x.taken(s, kind), NOTHING);
        }
        int[] above = {-1, 0, 0, 0, 1, 2, 3};
        for (int kind = 0; kind <= 6; kind++) {
            for (int k = 0; k <= 6; k++) {
                boolean under = k == kind || k == 0 || k == above[kind];
                due("32: KIND " + kind + " for " + k, actors().taken(kind, k), under ? kind : CAST);
            }
        }
        Bounds.still("32: CAST", Bounds::rich, x -> x.taken(0, 6), CAST);
    }

    private static void count() {
        for (int what : new int[] {-1, 6, MIN, MAX}) {
            Bounds.still("33: what " + what, Bounds::rich, x -> x.count(what), BAD);
            Bounds.still("33: what " + what, Bounds::fresh, x -> x.count(what), BAD);
        }
        FetchRope x = Bounds.full();
        int[] due = {7, 6, 12, 12, 100, 5};
        for (int what = 0; what <= 5; what++) due("33: what " + what + ", all full", x.count(what), due[what]);
    }

    private static void tape() {
        for (int tape : new int[] {-1, 6, MIN, MAX}) {
            Bounds.still("34: TAPE " + tape, Bounds::rich, x -> x.tape(tape, 0, 5), NONE);
            Bounds.still("34: TAPE " + tape + ", sort -1", Bounds::rich, x -> x.tape(tape, -1, 5), NONE);
            Bounds.still("34: TAPE " + tape + ", no sort, no size", Bounds::rich, x -> x.tape(tape, 5, -1), NONE);
        }
        for (int tape = 0; tape <= 5; tape++) {
            int one = tape;
            for (int sort : new int[] {-2, 5, MIN, MAX}) {
                Bounds.still("34: sort " + sort, Bounds::rich, x -> x.tape(one, sort, 5), BAD);
                Bounds.still("34: sort " + sort + ", a size below 0", Bounds::rich, x -> x.tape(one, sort, -1), BAD);
            }
            for (int sort = 0; sort <= 4; sort++) {
                int kept = sort;
                for (int n : new int[] {61, 62, MAX}) Bounds.still("34: n " + n, Bounds::rich, x -> x.tape(one, kept, n), BAD);
                for (int n : new int[] {-1, -2, MIN}) Bounds.still("34: n " + n, Bounds::rich, x -> x.tape(one, kept, n), SIZE);
                for (int n : new int[] {0, 1, 59, 60}) sized(tape, sort, n);
            }
            for (int n : new int[] {-1, 0, 60, 61, MIN, MAX}) {
                FetchRope x = Bounds.rich();
                due("34: sort -1, n " + n, x.tape(tape, -1, n), 1);
                due("35: it holds nothing", x.item(tape, 0, 1), NOTHING);
                due("36: it holds nothing", x.read(tape, 0), NO);
                due("37: it holds nothing", x.shift(tape, 0, tape, 0, 0), NOTHING);
            }
        }
    }

    /** A row of n, all 0, whatever the TAPE held. */
    private static void sized(int tape, int sort, int n) {
        FetchRope x = Bounds.rich();
        x.tape(tape, (sort + 1) % 5, 60);
        for (int i = 0; i < 60; i += 7) x.item(tape, i, -1);
        x.item(tape, 59, -1);
        due("34: sort " + sort + ", n " + n, x.tape(tape, sort, n), 1);
        for (int i = 0; i < n; i++) due("34: all 0", x.read(tape, i), 0);
        due("36: behind the end", x.read(tape, n), NO);
        due("35: behind the end", x.item(tape, n, 1), PLACE);
        if (n > 0) due("35: the last", x.item(tape, n - 1, 1), 1);
        if (n > 0) due("36: the last", x.read(tape, n - 1), 1);
    }

    private static void item() {
        for (int tape : new int[] {-1, 6, MIN, MAX}) {
            Bounds.still("35: TAPE " + tape, Bounds::rich, x -> x.item(tape, 0, 7), NONE);
            Bounds.still("35: TAPE " + tape + " and no place", Bounds::rich, x -> x.item(tape, -1, 7), NONE);
        }
        for (int i : new int[] {-1, 0, 5, MIN, MAX}) Bounds.still("35: nothing, place " + i, Bounds::rich, x -> x.item(5, i, 7), NOTHING);
        for (int tape = 0; tape <= 4; tape++) {
            int one = tape;
            for (int i : new int[] {-1, 5, 6, 59, 60, MIN, MAX}) Bounds.still("35: place " + i + " of 5", Bounds::rich, x -> x.item(one, i, 7), PLACE);
        }
        long[] values = {0, 1, -1, 2, 127, 128, -128, -129, 255, 256, 32767, 32768, -32768, -32769, 65535, 65536, MAX, 1L + MAX, MIN, -1L + MIN,
            1L << 32, (1L << 32) - 1, 1L << 63, Long.MAX_VALUE, 0x0123456789abcdefL, 1L << 40, 256L << 8};
        for (long v : values) {
            long[] cut = {(byte) v, (short) v, (int) v, v, v != 0 ? 1 : 0};
            FetchRope x = Bounds.rich();
            for (int tape = 0; tape <= 4; tape++) {
                due("35: " + v + " in sort " + tape, x.item(tape, 4, v), 1);
                due("36: " + v + " in sort " + tape, x.read(tape, 4), cut[tape]);
                due("36: beside it", x.read(tape, 3), tape == 4 ? 1 : tape + 1);
            }
        }
    }

    private static void read() {
        for (int tape : new int[] {-1, 6, MIN, MAX}) Bounds.still("36: TAPE " + tape, Bounds::rich, x -> x.read(tape, 0), NO);
        for (int i : new int[] {-1, 0, 5, MIN, MAX}) Bounds.still("36: nothing, place " + i, Bounds::rich, x -> x.read(5, i), NO);
        for (int tape = 0; tape <= 4; tape++) {
            int one = tape;
            for (int i : new int[] {-1, 5, 6, 59, 60, MIN, MAX}) Bounds.still("36: place " + i + " of 5", Bounds::rich, x -> x.read(one, i), NO);
            Bounds.still("36: the first", Bounds::rich, x -> x.read(one, 0), 1);
            Bounds.still("36: the last", Bounds::rich, x -> x.read(one, 4), 0);
        }
    }

    /** A TAPE of a sort with 1, 2, 3 .. (or 1, 0, 1 .. of booleans). */
    private static FetchRope counted(int sort) {
        FetchRope x = new FetchRope();
        x.tape(0, sort, 6);
        x.tape(1, sort, 4);
        x.tape(2, (sort + 1) % 5, 6);
        x.tape(3, sort, 0);
        for (int i = 0; i < 6; i++) x.item(0, i, itemOf(sort, i));
        return x;
    }

    private static long itemOf(int sort, int i) {
        return sort == 4 ? 1 - i % 2 : i + 1;
    }

    private static void shift() {
        for (int sort = 0; sort <= 4; sort++) {
            int[][] fine = {{0, 0, 1, 0, 4}, {2, 0, 1, 0, 4}, {5, 0, 1, 3, 1}, {6, 0, 1, 4, 0}, {0, 0, 1, 4, 0}, {6, 0, 1, 0, 0}, {0, 0, 0, 0, 6},
                {0, 0, 0, 1, 5}, {1, 0, 0, 0, 5}, {0, 0, 0, 3, 3}, {3, 0, 0, 0, 3}, {0, 0, 0, 5, 1}, {6, 0, 0, 6, 0}, {0, 0, 3, 0, 0}, {6, 0, 3, 0, 0}};
            for (int[] f : fine) shifted(sort, f[0], f[2], f[3], f[4]);
            int[][] places = {{0, 0, 1, 0, 5}, {3, 0, 1, 0, 4}, {6, 0, 1, 0, 1}, {7, 0, 1, 0, 0}, {0, 0, 1, 5, 0}, {0, 0, 1, 4, 1}, {0, 0, 1, 1, 4}, {0, 0, 0, 1, 6},
                {1, 0, 0, 0, 6}, {0, 0, 0, 0, 7}, {-1, 0, 1, 0, 1}, {0, 0, 1, -1, 1}, {0, 0, 1, 0, -1}, {1, 0, 1, 1, -1}, {-1, 0, 1, 0, 0}, {0, 0, 1, -1, 0},
                {MAX, 0, 1, 0, 0}, {0, 0, 1, MAX, 0}, {MAX, 0, 1, 0, 1}, {0, 0, 1, MAX, 1}, {0, 0, 1, 0, MAX}, {1, 0, 1, 1, MAX}, {MAX, 0, 1, MAX, MAX},
                {MIN, 0, 1, 0, 0}, {0, 0, 1, MIN, 0}, {0, 0, 1, 0, MIN}, {MIN, 0, 1, MIN, MIN}, {6, 0, 3, 1, 0}, {0, 0, 3, 0, 1}};
            for (int[] p : places) {
                int kept = sort;
                Bounds.still("37: i " + p[0] + ", j " + p[3] + ", n " + p[4] + " to TAPE " + p[2], () -> counted(kept), x -> x.shift(0, p[0], p[2], p[3], p[4]), PLACE);
            }
            int kept = sort;
            Bounds.still("37: of unlike sorts", () -> counted(kept), x -> x.shift(0, 0, 2, 0, 1), CAST);
            Bounds.still("37: of unlike sorts, n 0", () -> counted(kept), x -> x.shift(2, 0, 0, 0, 0), CAST);
            Bounds.still("37: of unlike sorts, no place", () -> counted(kept), x -> x.shift(2, -1, 0, 99, -5), CAST);
            Bounds.still("37: nothing", () -> counted(kept), x -> x.shift(0, 0, 4, 0, 1), NOTHING);
            Bounds.still("37: nothing", () -> counted(kept), x -> x.shift(4, 0, 0, 0, 1), NOTHING);
            Bounds.still("37: nothing, no place", () -> counted(kept), x -> x.shift(4, -1, 5, 99, -1), NOTHING);
            for (int tape : new int[] {-1, 6, MIN, MAX}) {
                Bounds.still("37: TAPE " + tape, () -> counted(kept), x -> x.shift(tape, 0, 0, 0, 1), NONE);
                Bounds.still("37: other TAPE " + tape, () -> counted(kept), x -> x.shift(0, 0, tape, 0, 1), NONE);
                Bounds.still("37: TAPE " + tape + ", nothing, no place", () -> counted(kept), x -> x.shift(4, -1, tape, 0, -1), NONE);
            }
        }
    }

    private static void shifted(int sort, int i, int other, int j, int n) {
        FetchRope x = counted(sort);
        String name = "37: i " + i + ", j " + j + ", n " + n + " to TAPE " + other;
        due(name, x.shift(0, i, other, j, n), n);
        for (int k = 0; k < 6; k++) due(name + ": item " + k, x.read(0, k), other == 0 && k >= j && k < j + n ? itemOf(sort, i + k - j) : itemOf(sort, k));
        if (other != 1) return;
        for (int k = 0; k < 4; k++) due(name + ": item " + k + " there", x.read(1, k), k >= j && k < j + n ? itemOf(sort, i + k - j) : 0);
    }

    /** What is asked changes nothing, on an object with some of all and on one where nothing more fits. */
    private static void asking() {
        asked("3", x -> x.of(2, 6));
        asked("8", x -> x.told(2));
        asked("11", x -> x.with(1));
        for (int what = 0; what <= 1; what++) {
            int one = what;
            asked("12", x -> x.ballast(0, 1, one));
            asked("13", x -> x.best(4, one));
            asked("18", x -> x.runs(3, one));
            asked("19", x -> x.two(one));
            asked("23", x -> x.odds(0, 1, one));
            asked("24", x -> x.mean(one));
            asked("13, the row", x -> x.best(4, 12 + one));
        }
        asked("14", x -> x.never());
        asked("15", x -> x.when(0, 1));
        asked("16", x -> x.can(3, 3));
        for (int what = 0; what <= 2; what++) {
            int one = what;
            asked("22", x -> x.wear(one));
        }
        for (int s = 0; s < 6; s++) {
            int one = s;
            asked("20", x -> x.price(one));
        }
        asked("26", x -> x.looked());
        asked("27", x -> x.judge(0, 0));
        asked("31", x -> x.trace(0));
        asked("32", x -> x.taken(5, 3));
        asked("33", x -> x.count(5));
        asked("36", x -> x.read(3, 3));
    }

    private static void asked(String name, Bounds.Ask ask) {
        Bounds.quiet(name, Bounds::rich, ask);
        Bounds.quiet(name, Bounds::full, ask);
        Bounds.quiet(name, Bounds::fresh, ask);
    }
}
