import java.util.Arrays;

/**
 * What the tests of the boundaries share. A call that changes nothing is made on one of two twins, and then both
 * are asked for all that can be seen of them, down to what only calls that change something bring to light.
 */
final class Bounds {
    static final int MIN = Integer.MIN_VALUE, MAX = Integer.MAX_VALUE;
    static final long NO = Long.MIN_VALUE;
    static final int NONE = -1, BAD = -2, STATE = -3, FULL = -4, ABSENT = -5;
    static final int NOTHING = -11, CAST = -12, PLACE = -13, SIZE = -14;

    static int asked;
    static int wrong;

    private static long[] seen = new long[400];
    private static int places;

    interface Made { FetchRope now(); }

    interface Ask { long of(FetchRope x); }

    private Bounds() {
    }

    static void due(String name, long got, long want) {
        asked++;
        if (got != want) {
            wrong++;
            System.out.println("promise " + name + ": answered " + got + ", due is " + want);
        }
    }

    /** The call answers so, and behind it all is as it would be without it. */
    static void still(String name, Made made, Ask ask, long want) {
        FetchRope x = made.now();
        due(name, ask.of(x), want);
        alike(name + ": nothing changes", x, made.now());
    }

    /** Whatever the call answers, nothing changes. */
    static void quiet(String name, Made made, Ask ask) {
        FetchRope x = made.now();
        ask.of(x);
        alike(name + ": what is asked changes nothing", x, made.now());
    }

    static void alike(String name, FetchRope x, FetchRope y) {
        long[] one = all(x);
        long[] other = all(y);
        asked++;
        if (!Arrays.equals(one, other)) {
            wrong++;
            System.out.println("promise " + name + ": unlike in place " + Arrays.mismatch(one, other) + " of all that is seen");
        }
    }

    static void end(String test) {
        System.out.println(test + ": " + asked + " answers, " + wrong + " not as due");
        if (wrong != 0) System.exit(1);
    }

    // ---- objects to ask

    static int feed(FetchRope x, String text) {
        int n = x.count(4);
        for (int i = 0; i < text.length(); i++) n = x.feed(text.charAt(i));
        return n;
    }

    static int hill(FetchRope x, String text) {
        feed(x, text);
        return x.hill();
    }

    /** SLEDGES of the top KIND, v 0, wanted on SIDE 1, each worth 1: a LOAD, then a SIDE, and so on. */
    static FetchRope plain(int... loadsAndSides) {
        FetchRope x = new FetchRope();
        for (int i = 0; i < loadsAndSides.length; i += 2) x.sledge(0, 0, loadsAndSides[i], loadsAndSides[i + 1], 1, 1);
        return x;
    }

    static FetchRope on(String text, int... loadsAndSides) {
        FetchRope x = plain(loadsAndSides);
        due("7: the HILL " + text, hill(x, text), 0);
        return x;
    }

    static FetchRope fresh() {
        return new FetchRope();
    }

    /** Six SLEDGES, and some of all else; nothing is full. */
    static FetchRope rich() {
        FetchRope x = new FetchRope();
        x.sledge(0, 3, 47, 0, 1, 10);
        x.sledge(1, 4, 30, 1, 0, 20);
        x.sledge(2, 5, 51, 0, 1, 30);
        x.sledge(3, 2, 40, 1, 0, 40);
        hill(x, "snow 5 d=0&s<3;need 2;rope 40");
        x.run(0, 1);
        x.plan(1, 0);
        x.book(0, 47);
        x.image();
        x.sledge(4, 6, 20, 0, 0, 5);
        x.sledge(6, 1, 33, 1, 1, 60);
        for (int part = 0; part < 4; part++) x.row(5, part, 3 + part);
        x.dusk(9);
        x.plan(0, 2);
        x.plan(3, 1);
        x.book(2, 30);
        x.book(4, 20);
        for (int tape = 0; tape < 5; tape++) {
            x.tape(tape, tape, 5);
            x.item(tape, 0, 1);
            x.item(tape, 3, tape + 1);
        }
        hill(x, "slush 3 k=1;need 3");
        feed(x, "need 3");
        x.act(5, 2, 7);
        x.hour();
        x.run(2, 3);
        return x;
    }

    /** Nothing more fits: no SLEDGE, HILL, byte, pair or row. */
    static FetchRope full() {
        FetchRope x = new FetchRope();
        for (int kind = 0; kind < 7; kind++) x.sledge(kind, kind + 1, 20 + 3 * kind, kind % 2, kind % 3 == 0 ? 1 : 0, 7 * kind);
        for (int n = 0; n < 6; n++) hill(x, "need " + n);
        for (int i = 0; i < 12; i++) {
            x.plan(i % 7, (i + 1) % 7);
            x.book(i % 7, 20 + i);
        }
        for (int i = 0; i < 100; i++) x.feed('s');
        x.act(6, 1, 3);
        x.image();
        return x;
    }

    // ---- all that can be seen

    private static void see(long answer) {
        seen[places] = answer;
        places++;
    }

    static long[] all(FetchRope x) {
        places = 0;
        asItIs(x);
        lookedOver(x);
        inside(x);
        x.undo();
        asItIs(x);
        parts(x);
        return Arrays.copyOf(seen, places);
    }

    private static void asItIs(FetchRope x) {
        for (int what = 0; what <= 5; what++) see(x.count(what));
        for (int what = 0; what <= 5; what++) see(x.told(what));
        for (int s = 0; s < 7; s++) {
            for (int what = 0; what <= 6; what++) see(x.of(s, what));
        }
        for (int what = 0; what <= 2; what++) see(x.wear(what));
        see(x.looked());
    }

    private static void lookedOver(FetchRope x) {
        for (int s = 0; s < 7; s++) {
            see(x.with(s));
            see(x.can(s, 2));
            see(x.price(s));
            see(x.when(s, (s + 1) % 7));
        }
        for (int what = 10; what <= 13; what++) see(x.best(4, what));
        see(x.best(4, 0));
        see(x.best(4, 1));
        see(x.never());
        for (int n = 0; n <= 3; n++) see(x.runs(n, n % 2));
        see(x.two(0));
        see(x.two(1));
        see(x.odds(0, 1, 0));
        see(x.mean(0));
        for (int i = 0; i <= 12; i++) see(x.trace(i));
        for (int tape = 0; tape < 6; tape++) {
            see(x.judge(tape, 0));
            for (int i = 0; i <= 5; i++) see(x.read(tape, i));
        }
    }

    /** DUSK, the ROWS, and what THE TEXT holds: they show only as they are changed. */
    private static void inside(FetchRope x) {
        parts(x);
        x.hour();
        see(x.wear(0));
        see(x.wear(1));
        see(x.feed('1'));
        see(x.hill());
        see(x.told(3));
        see(x.told(4));
        for (int s = 0; s < 7; s++) see(x.of(s, 6));
    }

    private static void parts(FetchRope x) {
        see(x.dusk(0));
        for (int s = 0; s < 7; s++) {
            for (int part = 0; part < 4; part++) see(x.row(s, part, 0));
        }
    }
}
