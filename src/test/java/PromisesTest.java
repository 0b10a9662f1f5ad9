/** Each promise of the document by hand: ordinary inputs, the edges that it names, wrong inputs. */
public final class PromisesTest {
    private static final int MIN = Integer.MIN_VALUE, MAX = Integer.MAX_VALUE;
    private static final long NO = Long.MIN_VALUE;

    private static int asked;
    private static int wrong;
    private static String promise = "";

    private static void due(String call, long got, long want) {
        asked++;
        if (got != want) {
            wrong++;
            System.out.println("promise " + promise + ": " + call + " answered " + got + ", due is " + want);
        }
    }

    private static int feed(FetchRope x, String text) {
        int n = x.count(4);
        for (int i = 0; i < text.length(); i++) n = x.feed(text.charAt(i));
        return n;
    }

    private static int hill(FetchRope x, String text) {
        feed(x, text);
        return x.hill();
    }

    /** SLEDGES of the top KIND, wanted on SIDE 1, each worth 1: a load, then a side, and so on. */
    private static FetchRope plain(int... loadsAndSides) {
        FetchRope x = new FetchRope();
        for (int i = 0; i < loadsAndSides.length; i += 2) x.sledge(0, 0, loadsAndSides[i], loadsAndSides[i + 1], 1, 1);
        return x;
    }

    public static void main(String[] args) {
        p1(); p2(); p3(); p4(); p5(); p6(); p7(); grammar(); tests(); pulls(); p8(); p9(); p10();
        p11(); p12(); p13(); p14(); p15(); p16(); p17(); p18(); p19(); p20();
        p21(); p22(); p23(); p24(); p25(); p26(); p27(); p28(); p30(); p32(); p33(); p34(); p35(); p37();
        System.out.println("PromisesTest: " + asked + " answers, " + wrong + " not as due");
        if (wrong != 0) System.exit(1);
    }

    private static void p1() {
        promise = "1";
        FetchRope x = new FetchRope();
        for (int what = 0; what <= 5; what++) due("count(" + what + ")", x.count(what), 0);
        for (int what = 0; what <= 2; what++) due("told(" + what + ")", x.told(what), 0);
        due("need", x.told(3), 1);
        due("rope", x.told(4), 990);
        due("bits", x.told(5), 0);
        due("of", x.of(0, 0), -1);
        due("undo", x.undo(), -3);
        due("dusk", x.dusk(0), 0);
        due("read", x.read(0, 0), NO);
        due("NONE", FetchRope.NONE, -1);
        due("BAD", FetchRope.BAD, -2);
        due("STATE", FetchRope.STATE, -3);
        due("FULL", FetchRope.FULL, -4);
        due("NO", FetchRope.NO, NO);
    }

    private static void p2() {
        promise = "2";
        FetchRope x = new FetchRope();
        int[][] bad = {{-1, 0, 0, 0, 0}, {10, 0, 0, 0, 0}, {0, -1, 0, 0, 0}, {0, 100, 0, 0, 0}, {0, 0, -1, 0, 0}, {0, 0, 2, 0, 0},
            {0, 0, 0, -1, 0}, {0, 0, 0, 2, 0}, {0, 0, 0, 0, -1}, {0, 0, 0, 0, 100}, {MIN, 0, 0, 0, 0}, {0, 0, MAX, 0, 0}};
        for (int[] b : bad) due("sledge", x.sledge(0, b[0], b[1], b[2], b[3], b[4]), -2);
        due("kind -1", x.sledge(-1, 0, 0, 0, 0, 0), -1);
        due("kind 7, and v", x.sledge(7, 10, 0, 0, 0, 0), -1);
        for (int i = 0; i < 7; i++) due("sledge", x.sledge(i, 9, 99, 1, 1, 99), i);
        due("an eighth", x.sledge(0, 0, 0, 0, 0, 0), -4);
        due("an eighth of no kind", x.sledge(7, 0, 0, 0, 0, 0), -1);
        due("an eighth, bad", x.sledge(0, 0, 0, 0, 0, 100), -2);
        due("count", x.count(0), 7);
    }

    private static void p3() {
        promise = "3";
        FetchRope x = new FetchRope();
        x.sledge(1, 2, 33, 1, 0, 55);
        int[] facts = {1, 2, 33, 1, 0, 55, 35};
        for (int what = 0; what <= 6; what++) due("of " + what, x.of(0, what), facts[what]);
        due("of 7", x.of(0, 7), -1);
        due("of -1", x.of(0, -1), -1);
        due("sledge 1", x.of(1, 0), -1);
        due("sledge -1", x.of(-1, 0), -1);
        due("sledge MAX", x.of(MAX, 0), -1);
        x.sledge(0, 0, 0, 0, 1, 0);
        due("goal", x.of(1, 4), 1);
        due("side", x.of(1, 3), 0);
    }

    private static void p4() {
        promise = "4";
        FetchRope x = plain(30, 0);
        due("load", x.set(0, 0, 99), 30);
        due("load again", x.set(0, 0, 0), 99);
        due("of", x.of(0, 2), 0);
        due("goal", x.set(0, 1, 0), 1);
        due("goal again", x.set(0, 1, 1), 0);
        due("of", x.of(0, 4), 1);
        due("load 100", x.set(0, 0, 100), -2);
        due("load -1", x.set(0, 0, -1), -2);
        due("goal 2", x.set(0, 1, 2), -2);
        due("goal -1", x.set(0, 1, -1), -2);
        due("what 2", x.set(0, 2, 0), -1);
        due("what -1", x.set(0, -1, 100), -1);
        due("sledge 1", x.set(1, 0, 100), -1);
        due("unchanged", x.of(0, 2), 0);
    }

    private static void p5() {
        promise = "5";
        FetchRope x = new FetchRope();
        x.sledge(6, 0, 10, 0, 1, 0);
        x.sledge(3, 0, 10, 0, 1, 0);
        for (int part = 0; part < 4; part++) {
            due("row", x.row(0, part, part + 6), 0);
            due("row again", x.row(0, part, part + 2), part + 6);
        }
        due("part 4", x.row(0, 4, 0), -1);
        due("part -1", x.row(0, -1, 10), -1);
        due("n 10", x.row(0, 0, 10), -2);
        due("n -1", x.row(0, 0, -1), -2);
        due("of another kind", x.row(1, 0, 0), -3);
        due("of another kind, n 10", x.row(1, 0, 10), -2);
        due("sledge 2", x.row(2, 0, 0), -1);
        for (int hour = 0; hour < 9; hour++) {
            due("pull", x.of(0, 6), 10 + hour % 4 + 2);
            x.hour();
        }
        x.image();
        x.sledge(6, 0, 10, 0, 1, 0);
        x.row(2, 1, 9);
        x.undo();
        x.sledge(6, 0, 10, 0, 1, 0);
        due("a new one's row", x.row(2, 1, 1), 0);
    }

    private static void p6() {
        promise = "6";
        FetchRope x = new FetchRope();
        due("128", x.feed(128), -2);
        due("-1", x.feed(-1), -2);
        due("MIN", x.feed(MIN), -2);
        due("0", x.feed(0), 1);
        due("127", x.feed(127), 2);
        for (int i = 3; i <= 100; i++) due("feed", x.feed('s'), i);
        due("the 101st", x.feed('s'), -4);
        due("a bad 101st", x.feed(128), -2);
        due("count", x.count(4), 100);
    }

    private static void p7() {
        promise = "7";
        FetchRope x = plain(50, 0);
        for (int i = 0; i < 6; i++) {
            due("hill", hill(x, "need " + (i + 1)), i);
            due("need", x.told(3), i + 1);
            due("a faulty one", hill(x, "need 9;"), i == 5 ? -4 : -17);
            due("need stays", x.told(3), i + 1);
            due("hills", x.count(1), i + 1);
        }
        due("the text stays", x.count(4), 7);
        due("full", x.hill(), -4);

        FetchRope z = plain(50, 0);
        for (int i = 0; i < 12; i++) due("a faulty one", hill(z, "snow 9 s=0;snow 8 s=0&s=0&s=0&s=0;need 9;rope 1;"), -58);
        due("a good one behind faulty ones", hill(z, "snow 3 s=1|s=0&s=0"), 0);
        due("pull", z.of(0, 6), 53);
        due("need", z.told(3), 1);
        due("rope", z.told(4), 990);

        FetchRope y = plain(50, 0);
        due("hill", hill(y, "snow 9 s=0;need 7;rope 8"), 0);
        y.image();
        due("another", hill(y, "slush 9 s=0"), 1);
        due("pull", y.of(0, 6), 41);
        due("need without", y.told(3), 1);
        due("rope without", y.told(4), 990);
        y.undo();
        due("pull by the first", y.of(0, 6), 59);
        due("need", y.told(3), 7);
        due("rope", y.told(4), 80);
        due("hills stay", y.count(1), 2);
        due("a third", hill(y, "need 3"), 2);
        due("holds", y.of(0, 6), 50);
    }

    private static void fault(String text, int place) {
        FetchRope x = new FetchRope();
        due("hill of '" + text + "'", hill(x, text), place < 0 ? 0 : -10 - place);
        due("text is empty", x.count(4), 0);
        due("hills", x.count(1), place < 0 ? 1 : 0);
    }

    private static void grammar() {
        promise = "7 (the grammar)";
        String[] fine = {"need 0", "need 07", "rope 99", "snow 5 s=0", "slush 05 h>11", "snow 1 k<6&v=2|d>0&l<99",
            "snow 1 !!!!s=1", "snow 1 ((((s=1))))", "snow 1 !(!(s=1))", "snow 1 (s=1)&(s=2)|!s=3&((s<1|s>2))",
            "need 1;need 2;need 3;need 4;need 5;need 6;need 7;need 8;need 9;need 1", "snow 0 !!(!s=1|s=2)&!!!!s=3"};
        for (String t : fine) fault(t, -1);
        Object[][] faults = {
            {"", 0}, {"x", 0}, {"S", 0}, {" need 1", 0}, {";", 0}, {"s", 1}, {"sx", 1}, {"sn", 2}, {"sl", 2}, {"snuw", 2}, {"slosh", 2},
            {"snow", 4}, {"snow ", 5}, {"snow  ", 5}, {"snow x", 5}, {"snow 1", 6}, {"snow 12", 7}, {"snow 123", 7}, {"snow 1;", 6},
            {"snow 1 ", 7}, {"snow 1  s", 7}, {"snow 1 s", 8}, {"snow 1 s!", 8}, {"snow 1 s=", 9}, {"snow 1 s=x", 9}, {"snow 1 s==1", 9},
            {"snow 1 s=1x", 10}, {"snow 1 s=11x", 11}, {"snow 1 s=111", 11}, {"snow 1 s=1 ", 10}, {"snow 1 s=1)", 10}, {"snow 1 s=1s", 10},
            {"snow 1 x=1", 7}, {"snow 1 1=1", 7}, {"snow 1 )", 7}, {"snow 1 ()", 8}, {"snow 1 (s=1", 11}, {"snow 1 (s=1;", 11},
            {"snow 1 (s=1))", 12}, {"snow 1 (s=1)(", 12}, {"snow 1 s=1|", 11}, {"snow 1 s=1||", 11}, {"snow 1 s=1&|", 11}, {"snow 1 !", 8},
            {"snow 1 !)", 8}, {"snow 1 !!!!!s=1", 11}, {"snow 1 (((((s=1)))))", 11}, {"snow 1 !(!(!s=1))", 11}, {"snow 1 (!(!(", 11},
            {"snow 1 !!!!(", 11}, {"snow 1 ((((", 11}, {"snow 1 !s=1&(!(!(!", 16}, {"need", 4}, {"nead", 2}, {"need 1 ", 6}, {"need 1 s=1", 6}, {"need 100", 7},
            {"need -1", 5}, {"rope 1;", 7}, {"rope 1; need", 7}, {"rope 1;;", 7}, {"reap", 1}, {"rope 1;need 2;sno", 17},
            {"need 1;need 2;need 3;need 4;need 5;need 6;need 7;need 8;need 9;need 1;need 2", 69}, {"need 1\u0000", 6}, {"\u0000", 0},
        };
        for (Object[] f : faults) fault((String) f[0], (Integer) f[1]);
        StringBuilder most = new StringBuilder("snow 1 s=1");
        while (most.length() < 100) most.append(most.length() % 2 == 0 ? "|s=1" : "&s=10");
        most.setLength(100);
        FetchRope x = new FetchRope();
        due("a text of 100 that ends too early", hill(x, most.substring(0, 98) + "|s"), -110);
        String deep = "snow 1 ((((s=1))))&((((s=2))))|!(!(s=3))&!(!(s=4))|((((s=5))))&((((s=6))))|s>10&s<10&!s<6&s=10";
        fault(deep, -1);
        fault(deep + "01", deep.length());
    }

    private static void holds(String e, int... bits) {
        FetchRope x = new FetchRope();
        x.sledge(0, 5, 39, 0, 1, 0);
        x.sledge(3, 0, 40, 1, 1, 0);
        x.sledge(6, 7, 9, 1, 1, 0);
        int[] without = {x.of(0, 6), x.of(1, 6), x.of(2, 6)};
        due("hill of " + e, hill(x, "snow 11 " + e), 0);
        for (int i = 0; i < 3; i++) due(e + " of " + i, x.of(i, 6) - without[i], i == 2 && bits[2] == 1 ? 6 : 11 * bits[i]);
    }

    private static void tests() {
        promise = "term 1 (tests)";
        // The third one's own weight is 5 below 0, so that 6 of the 11 are seen.
        holds("s=1", 0, 1, 0);
        holds("s<1", 1, 0, 0);
        holds("s>1", 0, 0, 1);
        holds("k=6", 0, 0, 1);
        holds("k<3", 1, 0, 0);
        holds("v=5", 1, 0, 0);
        holds("v>5", 0, 0, 1);
        holds("d=0", 1, 0, 0);
        holds("d=1", 0, 1, 1);
        holds("l=3", 1, 0, 0);
        holds("l>3", 0, 1, 0);
        holds("l=0", 0, 0, 1);
        holds("h=0", 1, 1, 1);
        holds("h>0", 0, 0, 0);
        holds("s=1|s=0&d=1", 0, 1, 0);
        holds("s=0&d=1|s=1", 0, 1, 0);
        holds("(s=1|s=0)&d=0", 1, 0, 0);
        holds("!s=1&d=1", 0, 0, 1);
        holds("!(s=1&d=1)", 1, 0, 1);
        holds("!!s=1", 0, 1, 0);
        holds("s=0|s=1|s=2", 1, 1, 1);
        holds("s=0&d=0&l=3", 1, 0, 0);
        holds("s=0|s=1&s=2|s=9", 1, 0, 0);
        holds("s=01", 0, 1, 0);
        for (char letter : "skvdlh".toCharArray()) {
            holds(letter + "<99", 1, 1, 1);
            holds(letter + "=99", 0, 0, 0);
            holds(letter + ">99", 0, 0, 0);
        }
        holds("!(!(s=0|s=2))", 1, 0, 1);
        FetchRope x = plain(20, 0);
        hill(x, "snow 1 h=0;snow 2 h=11;slush 4 h=5;snow 8 h<2;slush 9 h>10;slush 2 h=5");
        int[] due = {29, 28, 20, 20, 20, 14, 20, 20, 20, 20, 20, 13};
        for (int hour = 0; hour < 30; hour++) {
            due("pull at " + hour, x.of(0, 6), due[hour % 12]);
            x.hour();
        }
        hill(x, "need 5;rope 7;need 0;rope 0");
        due("the last need", x.told(3), 0);
        due("the last rope", x.told(4), 0);
    }

    private static void pulls() {
        promise = "term 1 (PULL)";
        FetchRope x = new FetchRope();
        for (int kind = 0; kind <= 6; kind++) x.sledge(kind, 4, 31, 0, 1, 0);
        for (int part = 0; part < 4; part++) x.row(6, part, 2 * part + 1);
        int[][] due = {
            {31, 35, 15, 23, 35, 4, 24},
            {31, 35, 15, 23, 70, 15, 26},
            {31, 35, 15, 23, 35, 15, 28},
            {31, 35, 15, 23, 70, 4, 30},
            {31, 35, 15, 23, 35, 15, 24},
        };
        for (int[] hour : due) {
            for (int s = 0; s < 7; s++) due("pull of " + s, x.of(s, 6), hour[s]);
            x.hour();
        }
        hill(x, "slush 33 s<9");
        // HOUR 5: 2 below 0, and what comes of it.
        int[] deep = {0, 2, 0, 0, 4, 0, 0};
        for (int s = 0; s < 7; s++) due("pull of " + s + " below 0", x.of(s, 6), deep[s]);
        hill(x, "slush 36 s=2;slush 30 s=6|s=3");
        due("half of one below 0", x.of(2, 6), 0);
        due("braked", x.of(3, 6), 0);
        due("told: 1, 8 less, 3 more", x.of(6, 6), 0);
        hill(x, "slush 24 s=6|s=3");
        due("told: 7, 8 less, 3 more", x.of(6, 6), 2);
        hill(x, "snow 99 s=4;snow 99 s=4;snow 99 s=4;snow 99 s=4");
        due("a gift at an odd hour", x.of(4, 6), 2 * (31 + 396 + 4));
    }

    private static void p8() {
        promise = "8";
        FetchRope x = new FetchRope();
        x.sledge(0, 0, 50, 0, 1, 10);
        x.sledge(0, 0, 20, 1, 1, 20);
        x.sledge(0, 0, 20, 0, 0, 40);
        due("gain", x.told(2), 60);
        due("bits", x.told(5), 2);
        x.run(0, 1);
        due("hour", x.told(0), 1);
        due("worn", x.told(1), 70);
        due("gain", x.told(2), 50);
        due("bits", x.told(5), 1);
        due("6", x.told(6), -1);
        due("-1", x.told(-1), -1);
        due("MAX", x.told(MAX), -1);
    }

    private static void p9() {
        promise = "9";
        FetchRope x = plain(30, 0, 30, 1, 40, 0);
        due("of like pull", x.run(0, 1), 0);
        due("hour all the same", x.told(0), 1);
        due("worn", x.told(1), 0);
        due("sides", x.told(5), 2);
        due("on one side", x.run(0, 2), -3);
        due("one sledge", x.run(1, 1), -2);
        due("none", x.run(3, 3), -1);
        due("none", x.run(0, -1), -1);
        due("none", x.run(MIN, 0), -1);
        due("hour stays", x.told(0), 1);
        due("run", x.run(1, 2), 1);
        due("sides", x.told(5), 4);
        due("worn", x.told(1), 70);
        due("of()", x.of(1, 3), 0);
        hill(x, "need 10");
        due("need just met", x.run(2, 1), 1);
        hill(x, "need 11");
        due("need not met", x.run(2, 1), 0);
        hill(x, "rope 7");
        due("rope just met", x.run(1, 2), 1);
        hill(x, "rope 6");
        due("too much for the rope", x.run(2, 0), 0);
        hill(x, "need 0");
        due("need 0, of like pull", x.run(2, 0), 1);

        FetchRope d = plain(30, 0, 20, 1);
        hill(d, "snow 7 d=1&s=1;snow 3 d=0&s=0");
        due("pulls by their sides", d.run(1, 0), 1);
        due("worn by the sides that they leave", d.told(1), 60);
        due("back", d.run(1, 0), 1);
        due("worn", d.told(1), 110);

        FetchRope y = plain(99, 0, 99, 1);
        hill(y, "snow 99 s<9;snow 99 s<9;snow 99 s<9;snow 98 s<9;need 0");
        for (int i = 1; i <= 12; i++) {
            due("run", y.run(0, 1), i == 13 ? 0 : 1);
            due("worn", y.told(1), Math.min(9999, 988 * i));
        }
    }

    private static void p10() {
        promise = "10";
        FetchRope x = plain(30, 0, 30, 1);
        for (int i = 1; i <= 20; i++) due("hour", x.hour(), i);
        due("told", x.told(0), 20);
        due("sides", x.told(5), 2);
        due("worn", x.told(1), 0);
    }

    private static void p11() {
        promise = "11";
        FetchRope x = plain(30, 0, 30, 1, 31, 1, 90, 0, 20, 1);
        due("with 0", x.with(0), 20);
        due("with 3", x.with(3), 22);
        due("with 1", x.with(1), 8);
        hill(x, "need 11;rope 12");
        due("with 0", x.with(0), 0);
        due("with 3", x.with(3), 18);
        hill(x, "rope 11");
        due("with 3", x.with(3), 16);
        due("none", x.with(5), -1);
        due("none", x.with(-1), -1);
    }

    private static void p12() {
        promise = "12";
        FetchRope x = plain(30, 0, 33, 1, 30, 1, 40, 0);
        hill(x, "need 5");
        due("how much", x.ballast(0, 1, 0), 2);
        due("on which", x.ballast(0, 1, 1), 1);
        due("how much", x.ballast(1, 0, 0), 2);
        due("on which", x.ballast(1, 0, 1), 1);
        due("alike: the one told first", x.ballast(0, 2, 1), 0);
        due("alike: the one told first", x.ballast(2, 0, 1), 2);
        due("how much", x.ballast(2, 0, 0), 5);
        due("it goes now", x.ballast(3, 1, 0), 0);
        due("it goes now", x.ballast(1, 3, 1), 1);
        due("one side", x.ballast(0, 3, 0), -5);
        due("one side", x.ballast(0, 3, 1), -5);
        due("what 2", x.ballast(0, 1, 2), -1);
        due("what 2, one sledge", x.ballast(1, 1, 2), -1);
        due("one sledge", x.ballast(1, 1, 0), -2);
        due("no such", x.ballast(4, 4, 0), -1);
        hill(x, "need 5;rope 6");
        due("beyond the rope", x.ballast(0, 1, 0), -5);
        due("beyond the rope", x.ballast(0, 1, 1), -5);
        hill(x, "need 99");
        due("102 would be needed", x.ballast(0, 1, 0), 96);
        FetchRope y = plain(0, 0, 0, 1);
        hill(y, "need 99");
        due("99", y.ballast(0, 1, 0), 99);
        hill(y, "need 99;snow 1 s=0");
        due("98", y.ballast(1, 0, 0), 98);
        due("on the heavier", y.ballast(1, 0, 1), 0);
    }

    private static void p13() {
        promise = "13";
        FetchRope x = new FetchRope();
        x.sledge(0, 0, 50, 0, 1, 10);
        x.sledge(0, 0, 20, 1, 0, 20);
        x.sledge(0, 0, 10, 1, 0, 20);
        x.sledge(0, 0, 60, 0, 0, 5);
        due("n 0", x.best(0, 0), 5);
        due("n 0", x.best(0, 1), 0);
        due("n 0", x.best(0, 10), -5);
        due("n 1", x.best(1, 0), 35);
        due("the least worn", x.best(1, 1), 60);
        due("its pair", x.best(1, 10), 2);
        due("n 1", x.best(1, 11), -5);
        // Either of 0 and 3 may go first; the other one's run follows, and 3 is not wanted over there.
        due("n 2", x.best(2, 0), 50);
        due("worn", x.best(2, 1), 60 + 80);
        due("the first", x.best(2, 10), 1);
        due("the second", x.best(2, 11), 23);
        due("n 4: two are on side 1 whatever goes", x.best(4, 0), 50);
        due("n -1", x.best(-1, 0), -2);
        due("n 5", x.best(5, 13), -2);
        due("what 2", x.best(5, 2), -1);
        due("what 9", x.best(0, 9), -1);
        due("what 14", x.best(4, 14), -1);
        due("what -1", x.best(4, -1), -1);
        due("nothing changes", x.told(5), 6);

        FetchRope y = plain(50, 0, 20, 1);
        y.set(0, 1, 0);
        due("staying is best", y.best(3, 0), 2);
        for (int k = 10; k <= 12; k++) due("none", y.best(3, k), 99);
        due("worn", y.best(3, 1), 0);

        // A pair stands ahead of none: what can go at once goes at once.
        FetchRope z = plain(50, 0, 20, 1);
        z.set(1, 1, 0);
        due("at once", z.best(3, 10), 1);
        due("then none", z.best(3, 11), 99);
        due("then none", z.best(3, 12), 99);
        // ... and waits, if that wears less.
        hill(z, "slush 9 h=2");
        due("waits", z.best(3, 10), 99);
        due("waits", z.best(3, 11), 99);
        due("goes", z.best(3, 12), 1);
        due("worn", z.best(3, 1), 52);

        FetchRope v = new FetchRope();
        v.sledge(0, 0, 0, 0, 0, 0);
        v.sledge(0, 0, 0, 1, 0, 0);
        due("of like pull", v.best(2, 10), 99);
        hill(v, "need 0");
        due("no gain, no wear: still a pair ahead of none", v.best(2, 10), 1);
        due("and again", v.best(2, 11), 1);
        due("worn", v.best(2, 1), 0);

        FetchRope u = plain(30, 0, 20, 0);
        u.set(1, 1, 0);
        due("all on side 0", u.best(2, 0), 1);
        u.set(0, 1, 0);
        due("all on side 0", u.best(2, 0), 2);

        FetchRope w = plain(99, 0, 99, 1);
        w.set(0, 1, 0);
        hill(w, "snow 99 s<9;snow 99 s<9;snow 99 s<9;snow 98 s<9;need 0");
        for (int i = 0; i < 11; i++) w.run(0, 1);
        due("worn", w.told(1), 9999);
        due("gain", w.best(1, 0), 2);
        due("9999 does not bound it", w.best(1, 1), w.told(2) == 2 ? 0 : 988);
    }

    private static void p14() {
        promise = "14";
        FetchRope x = plain(30, 0, 30, 1, 40, 0, 99, 1);
        hill(x, "need 5;rope 12");
        due("never", x.never(), 8 | 1);
        hill(x, "need 5;rope 12;snow 5 s=0&h=11");
        due("at hour 11", x.never(), 8);
        hill(x, "need 5;rope 12;snow 5 s=0&h=12");
        due("no hour is 12 modulo 12", x.never(), 9);
        hill(x, "need 5;rope 12;snow 5 s=0&h=0");
        due("at this hour", x.never(), 8);
        x.run(1, 2);
        due("sides as they are", x.never(), 8);
        due("of like pull", plain(30, 0, 99, 0, 30, 1).never(), 1);
        due("alone", plain(30, 0).never(), 1);
        due("all on one side", plain(30, 0, 90, 0).never(), 3);
    }

    private static void p15() {
        promise = "15";
        FetchRope x = plain(30, 0, 30, 1, 30, 0);
        due("never", x.when(0, 1), -5);
        hill(x, "snow 5 s=0&h=7");
        due("when", x.when(0, 1), 7);
        due("when", x.when(1, 0), 7);
        for (int i = 0; i < 3; i++) x.hour();
        due("four more", x.when(0, 1), 4);
        for (int i = 0; i < 5; i++) x.hour();
        due("eleven more", x.when(0, 1), 11);
        due("one side", x.when(0, 2), -5);
        due("one sledge", x.when(0, 0), -2);
        due("none", x.when(0, 3), -1);
        due("none", x.when(3, 3), -1);
        hill(x, "need 0");
        due("now", x.when(0, 1), 0);
    }

    private static void p16() {
        promise = "16";
        FetchRope x = plain(30, 0, 30, 1, 35, 0, 28, 1);
        hill(x, "need 4");
        // 0 goes with none now: 2 must cross to its far side first (with 1 or 3).
        due("0 by 1", x.can(0, 1), 0);
        due("0 by 2", x.can(0, 2), 1);
        due("0 by 0", x.can(0, 0), 0);
        due("1 by 0", x.can(1, 0), 0);
        due("1 by 1", x.can(1, 1), 1);
        due("2 by 3", x.can(2, 3), 1);
        due("n 4", x.can(0, 4), -2);
        due("n -1", x.can(0, -1), -2);
        due("none", x.can(4, 4), -1);
        FetchRope z = plain(30, 0, 20, 0);
        due("as it is", z.runs(0, 0), 1);
        due("by 0 of them", z.can(0, 0), 0);
        due("all on one side", z.can(0, 3), 0);
        // The runs have an hour each.
        FetchRope y = plain(30, 0, 30, 1, 60, 0);
        hill(y, "snow 9 s=0&h=2");
        due("by 2", y.can(0, 2), 1);
        hill(y, "need 20;slush 31 s=2&h>0");
        due("by 3", y.can(0, 3), 0);
        hill(y, "need 20;slush 31 s=2&h>1");
        due("by 3", y.can(0, 3), 1);
    }

    private static void p17() {
        promise = "17";
        FetchRope x = plain(30, 0, 30, 1);
        due("dusk", x.dusk(3), 0);
        due("dusk", x.dusk(0), 3);
        due("dusk 4", x.dusk(4), -2);
        due("dusk -1", x.dusk(-1), -2);
        due("dusk MIN", x.dusk(MIN), -2);
        due("dusk", x.dusk(1), 0);
        due("none", new FetchRope().dusk(0), 0);
        due("none", new FetchRope().dusk(1), -2);
    }

    private static void p18() {
        promise = "18";
        FetchRope x = plain(30, 0, 20, 1, 10, 0);
        due("dusk 0, n 0", x.runs(0, 0), 0);
        due("first", x.runs(0, 1), -5);
        x.dusk(2);
        due("as it is", x.runs(0, 0), 1);
        due("first", x.runs(0, 1), 99);
        due("n 1", x.runs(1, 0), 0);
        due("first", x.runs(1, 1), -5);
        due("n 2", x.runs(2, 0), 2);
        due("first", x.runs(2, 1), 1);
        due("n 3", x.runs(3, 0), 2);
        x.dusk(4);
        due("n 1", x.runs(1, 0), 1);
        due("first", x.runs(1, 1), 12);
        due("n 2", x.runs(2, 0), 1);
        due("first", x.runs(2, 1), 1);
        x.dusk(3);
        due("two on side 1", x.runs(3, 0), 0);
        due("first", x.runs(3, 1), -5);
        due("n 4", x.runs(4, 0), -2);
        due("n -1", x.runs(-1, 1), -2);
        due("what 2", x.runs(4, 2), -1);
        due("what -1", x.runs(0, -1), -1);
        x.dusk(4);
        due("n 1", x.runs(1, 0), 1);
        x.dusk(2);
        due("n 0 behind it", x.runs(0, 1), 99);
        due("all on side 0", plain(30, 0, 20, 0).runs(0, 0), 1);
        FetchRope y = plain(30, 1, 20, 1);
        y.dusk(3);
        due("all on side 1", y.runs(0, 0), 1);
        due("first", y.runs(0, 1), 99);
        due("n 1", y.runs(1, 0), 0);
        hill(x, "snow 10 s=2&h=1");
        x.dusk(4);
        due("at hour 1 of like pull", x.runs(2, 0), 1);
        x.dusk(2);
        due("the way back is shut for 12", x.runs(2, 0), 1);
        due("first", x.runs(2, 1), 1);
    }

    private static void p19() {
        promise = "19";
        FetchRope x = new FetchRope();
        x.sledge(0, 0, 10, 0, 1, 1);
        x.sledge(0, 0, 20, 1, 0, 2);
        x.sledge(0, 0, 30, 0, 1, 4);
        due("three", x.two(0), 0);
        due("three", x.two(1), -1001);
        x.sledge(0, 0, 40, 1, 1, 8);
        due("ways", x.two(0), 2);
        due("most", x.two(1), 1 + 2 + 4 - 8);
        x.sledge(0, 0, 40, 0, 0, 50);
        due("ways", x.two(0), 4);
        due("most", x.two(1), -1);
        hill(x, "rope 5");
        due("ways", x.two(0), 1);
        hill(x, "need 99");
        due("ways", x.two(0), 0);
        due("most", x.two(1), -1001);
        due("what 2", x.two(2), -1002);
        due("what -1", x.two(-1), -1002);
    }

    private static void p20() {
        promise = "20";
        FetchRope x = new FetchRope();
        x.sledge(0, 0, 50, 0, 1, 10);
        x.sledge(0, 0, 20, 1, 0, 20);
        x.sledge(0, 0, 50, 0, 0, 5);
        due("its own, and what 2 loses for it", x.price(0), 15);
        due("the other", x.price(1), 30);
        due("it only stays", x.price(2), 5);
        hill(x, "snow 9 s=1");
        due("numbers stay", x.price(0), 15);
        due("none", x.price(3), -1001);
        due("none", x.price(-1), -1001);
        FetchRope y = plain(50, 0, 20, 1);
        y.set(0, 1, 0);
        due("worth 1", y.price(0), 1);
        FetchRope z = plain(50, 0, 50, 1);
        hill(z, "snow 9 s=0&h=2");
        z.set(1, 1, 0);
        due("2 hours only", z.price(0), 0);
        hill(z, "snow 9 s=0&h=1");
        due("2 hours", z.price(0), 2);
    }

    private static void p21() {
        promise = "21";
        FetchRope x = plain(30, 0, 20, 1);
        due("none", x.plan(0, 2), -1);
        due("none", x.plan(-2, 0), -1);
        due("none", x.plan(0, -1), -1);
        due("none", x.plan(5, 5), -1);
        due("one sledge", x.plan(1, 1), -2);
        for (int i = 1; i <= 12; i++) due("plan", x.plan(i % 2, 1 - i % 2), i);
        due("full", x.plan(0, 1), -4);
        due("full, none", x.plan(0, 2), -1);
        due("full, one sledge", x.plan(0, 0), -2);
        due("count", x.count(2), 12);
        due("none then", x.plan(-1, MIN), 0);
        due("count", x.count(2), 0);
        due("plan", x.plan(0, 1), 1);
    }

    private static void p22() {
        promise = "22";
        FetchRope x = plain(30, 0, 20, 1, 30, 1);
        due("worn", x.wear(0), 0);
        due("not", x.wear(1), 0);
        due("first", x.wear(2), -5);
        x.plan(0, 1);
        x.plan(1, 0);
        due("worn", x.wear(0), 100);
        due("not", x.wear(1), 0);
        due("first", x.wear(2), -5);
        x.plan(1, 2);
        x.plan(0, 2);
        x.plan(2, 0);
        due("worn", x.wear(0), 100);
        due("not", x.wear(1), 3);
        due("first", x.wear(2), 2);
        hill(x, "snow 5 s=0&h=3");
        due("an hour each", x.wear(0), 165);
        due("not", x.wear(1), 2);
        due("first", x.wear(2), 2);
        x.run(1, 0);
        due("from worn on", x.wear(0), 50 + 150);
        due("what 3", x.wear(3), -1);
        due("what -1", x.wear(-1), -1);
        due("nothing changes", x.told(1), 50);
        due("nothing changes", x.told(0), 1);
        FetchRope y = plain(99, 0, 99, 1);
        hill(y, "snow 99 s<9;snow 99 s<9;snow 99 s<9;snow 98 s<9;need 0");
        for (int i = 0; i < 12; i++) y.plan(0, 1);
        due("9999 at most", y.wear(0), 9999);
    }

    private static void p23() {
        promise = "23";
        FetchRope x = plain(30, 0, 35, 1, 80, 0, 35, 0);
        hill(x, "need 2");
        // 30 .. 33, and 37 .. 39.
        due("above", x.odds(0, 1, 0), 7);
        due("below", x.odds(0, 1, 1), 10);
        due("the other way, above", x.odds(1, 0, 0), 1);
        due("the other way, below", x.odds(1, 0, 1), 1);
        hill(x, "need 6");
        due("3 to 9 of 10: the other way", x.odds(1, 0, 0), 9);
        due("none, above", x.odds(0, 1, 0), 0);
        due("none, below", x.odds(0, 1, 1), 1);
        hill(x, "need 5;rope 7");
        due("30 alone", x.odds(0, 1, 0), 1);
        due("of 10", x.odds(0, 1, 1), 10);
        hill(x, "rope 7");
        due("1 of 2", x.odds(0, 1, 0), 1);
        due("30 .. 34", x.odds(0, 1, 1), 2);
        due("one side", x.odds(0, 2, 0), NO);
        due("one sledge", x.odds(0, 0, 0), NO);
        due("no such", x.odds(0, 4, 0), NO);
        due("no such", x.odds(-1, 0, 0), NO);
        due("part 2", x.odds(0, 1, 2), NO);
        due("part -1", x.odds(0, 1, -1), NO);
    }

    private static void p24() {
        promise = "24";
        due("none", new FetchRope().mean(0), NO);
        due("none", new FetchRope().mean(1), NO);
        FetchRope x = plain(0, 0, 0, 1);
        due("0", x.mean(0), 0);
        due("of 1", x.mean(1), 1);
        x.set(0, 0, 7);
        due("7", x.mean(0), 7);
        due("of 2", x.mean(1), 2);
        x.set(1, 0, 7);
        due("7", x.mean(0), 7);
        due("of 1", x.mean(1), 1);
        x.sledge(0, 0, 1, 0, 0, 0);
        x.sledge(0, 0, 3, 0, 0, 0);
        due("18 of 4", x.mean(0), 9);
        due("18 of 4", x.mean(1), 2);
        due("part 2", x.mean(2), NO);
        due("part -1", x.mean(-1), NO);
    }

    private static void p25() {
        promise = "25";
        FetchRope x = plain(30, 0);
        due("none", x.book(1, 0), -1);
        due("none", x.book(-2, 1000), -1);
        due("n 1000", x.book(0, 1000), -2);
        due("n -1", x.book(0, -1), -2);
        for (int i = 1; i <= 12; i++) due("book", x.book(0, i == 1 ? 999 : 0), i);
        due("full", x.book(0, 0), -4);
        due("full, n 1000", x.book(0, 1000), -2);
        due("count", x.count(3), 12);
        due("empty then", x.book(-1, -5), 0);
        due("count", x.count(3), 0);
        due("book", x.book(0, 0), 1);
    }

    private static void p26() {
        promise = "26";
        FetchRope x = plain(30, 0, 20, 1);
        due("empty", x.looked(), -5);
        x.book(1, 20);
        x.book(0, 30);
        due("as told", x.looked(), -5);
        x.book(1, 21);
        due("the third row", x.looked(), 2);
        x.set(0, 0, 31);
        due("the second row", x.looked(), 1);
        x.hour();
        hill(x, "snow 1 h=1&s=1");
        due("the first row", x.looked(), 0);
        x.book(-1, 0);
        due("empty", x.looked(), -5);
    }

    private static void p27() {
        promise = "27";
        FetchRope x = new FetchRope();
        x.tape(0, 0, 4);
        x.tape(1, 1, 4);
        due("there is none to look at", x.judge(0, 0), -5);
        due("nor here", x.judge(0, -1), -5);
        due("nor here", x.judge(5, 99), -5);
        due("shorts, all the same", x.judge(1, 0), -12);
        for (int i = 0; i < 3; i++) x.sledge(0, 0, 0, i % 2, 0, 0);
        x.item(0, 2, 1);
        due("from 1 on", x.judge(0, 1), -5);
        due("from 0 on", x.judge(0, 0), 1);
        due("from 2 on", x.judge(0, 2), 0);
        due("from 3 on", x.judge(0, 3), 101);
        due("from 4 on", x.judge(0, 4), 100);
        due("from 99 on", x.judge(0, 99), 100);
        due("from MAX on", x.judge(0, MAX), 100);
        due("from -1 on", x.judge(0, -1), 100);
        due("from MIN on", x.judge(0, MIN), 100);
        due("nothing", x.judge(5, 0), 100);
        due("shorts", x.judge(1, -1), -12);
        due("no tape", x.judge(6, 0), -1);
        due("no tape", x.judge(-1, 0), -1);
        x.item(0, 1, 256);
        due("a byte of 256 is 0", x.judge(0, 1), -5);
        x.item(0, 2, 257);
        due("a byte of 257 is 1", x.judge(0, 1), -5);
        x.item(0, 3, 2);
        due("2 is otherwise", x.judge(0, 1), 2);
        x.tape(0, 0, 0);
        due("a row of 0", x.judge(0, 0), 100);
    }

    private static void p28() {
        promise = "28, 29";
        FetchRope x = new FetchRope();
        due("no image", x.undo(), -3);
        due("image of none", x.image(), 0);
        x.sledge(0, 0, 30, 0, 1, 9);
        due("undo", x.undo(), 0);
        due("count", x.count(0), 0);
        x.sledge(6, 2, 30, 0, 1, 9);
        x.sledge(4, 3, 20, 1, 1, 9);
        x.row(0, 1, 5);
        x.plan(0, 1);
        x.book(0, 7);
        x.dusk(1);
        hill(x, "need 3");
        x.run(0, 1);
        due("image", x.image(), 2);
        long[] was = snapshot(x);
        due("worn", x.told(1), 49);
        x.sledge(0, 0, 30, 0, 1, 9);
        x.row(0, 1, 9);
        x.row(0, 2, 9);
        x.plan(0, 2);
        x.book(1, 1);
        x.book(2, 1);
        x.dusk(4);
        x.set(0, 0, 1);
        x.set(1, 1, 0);
        hill(x, "need 0;snow 9 s=0");
        x.run(0, 1);
        x.hour();
        feed(x, "sn");
        x.tape(0, 2, 3);
        x.act(0, 0, 0);
        due("undo", x.undo(), 2);
        same(was, snapshot(x));
        due("row", x.row(0, 2, 3), 0);
        due("row", x.row(0, 1, 5), 5);
        due("the text stays", x.count(4), 2);
        due("hills stay", x.count(1), 2);
        due("tapes stay", x.read(0, 0), 0);
        due("the trace stays", x.count(5), 2);
        x.plan(-1, 0);
        x.plan(1, 0);
        x.sledge(0, 0, 30, 0, 1, 9);
        x.plan(-1, 0);
        x.plan(2, 0);
        x.book(-1, 0);
        x.book(1, x.of(1, 6));
        due("undo again", x.undo(), 2);
        same(was, snapshot(x));
        due("dusk", x.dusk(0), 1);
        due("wear of the plan", x.wear(1), 0);
        due("the book", x.looked(), 0);
        x.book(-1, 0);
        x.book(0, x.of(0, 6));
        x.plan(-1, 0);
        x.plan(1, 0);
        x.image();
        due("as told", x.looked(), -5);
        x.book(-1, 0);
        x.book(1, 998);
        x.undo();
        due("the same sledge and number", x.looked(), -5);
        x.book(-1, 0);
        x.book(0, 998);
        x.undo();
        due("the same number", x.looked(), -5);
        x.sledge(0, 0, 50, 0, 1, 9);
        x.sledge(0, 0, 50, 0, 1, 9);
        long worn = x.wear(0);
        x.plan(-1, 0);
        x.plan(2, 3);
        x.undo();
        due("the same pair", x.wear(0), worn);
        due("goes", x.wear(1), 0);
    }

    private static long[] snapshot(FetchRope x) {
        long[] r = new long[24];
        for (int what = 0; what <= 6; what++) {
            r[what] = x.of(0, what);
            r[7 + what] = x.of(1, what);
        }
        for (int what = 0; what <= 5; what++) r[14 + what] = x.told(what);
        r[20] = x.count(2);
        r[21] = x.count(3);
        r[22] = x.count(0);
        r[23] = x.wear(0);
        return r;
    }

    private static void same(long[] a, long[] b) {
        for (int i = 0; i < a.length; i++) due("snapshot " + i, b[i], a[i]);
    }

    private static void act(FetchRope x, int sledge, int act, int n, int answer, int... bodies) {
        due("act " + act + " of " + sledge, x.act(sledge, act, n), answer);
        due("bodies", x.count(5), bodies.length);
        for (int i = 0; i < bodies.length; i++) due("trace " + i, x.trace(i), bodies[i]);
        due("behind the last", x.trace(bodies.length), -1);
        due("trace -1", x.trace(-1), -1);
    }

    private static void p30() {
        promise = "30, 31";
        FetchRope x = new FetchRope();
        due("no trace yet", x.trace(0), -1);
        for (int kind = 0; kind <= 6; kind++) x.sledge(kind, kind + 1, 0, 0, 0, 0);
        act(x, 0, 0, 5, 5, 10);
        act(x, 0, 1, 5, 4, 11, 10);
        act(x, 0, 2, 5, 8, 12, 11, 10);
        act(x, 1, 0, 5, 6, 10);
        act(x, 1, 1, 5, 4 ^ 6, 20, 11, 10);
        act(x, 1, 2, 5, 2 * (4 ^ 6), 12, 20, 11, 10);
        act(x, 2, 0, 5, 17, 30, 10);
        act(x, 2, 1, 5, 14, 11, 30, 10);
        act(x, 2, 2, 5, 28, 12, 11, 30, 10);
        act(x, 3, 0, 5, 8, 10);
        act(x, 3, 1, 5, 4, 11, 10);
        act(x, 3, 2, 5, 8 + 0, 40, 12, 11, 10, 11, 10);
        act(x, 4, 0, 5, -9, 50, 10);
        act(x, 4, 1, 5, (-10 - 5) ^ 6, 51, 20, 11, 50, 10);
        act(x, 4, 2, 5, 2 * ((-10 - 5) ^ 6), 12, 51, 20, 11, 50, 10);
        act(x, 5, 0, 5, 20, 30, 10);
        act(x, 5, 1, 5, 14, 11, 30, 10);
        act(x, 5, 2, 5, 2 * (0 + 5 - 6), 60, 12, 11, 30, 10);
        act(x, 6, 0, 5, 11 ^ 7, 71, 10);
        act(x, 6, 1, 5, (11 ^ 7) - 7 + 8, 70, 11, 71, 10, 10);
        act(x, 6, 2, 5, 2 * ((11 ^ 7) + 1) + (7 ^ 7) + 1, 40, 12, 70, 11, 71, 10, 10, 70, 11, 71, 10, 10);
        act(x, 2, 0, MAX, MAX * 3 + 2, 30, 10);
        act(x, 1, 0, MAX, MIN, 10);
        act(x, 0, 2, MAX, (MAX - 1) * 2, 12, 11, 10);
        act(x, 7, 0, 5, 0);
        x.act(0, 0, 0);
        act(x, 0, 3, 5, 0);
        x.act(0, 0, 0);
        act(x, 0, -1, 5, 0);
        act(x, -1, 0, 5, 0);
    }

    private static void p32() {
        promise = "32";
        FetchRope x = new FetchRope();
        for (int kind = 0; kind <= 6; kind++) x.sledge(kind, 0, 0, 0, 0, 0);
        String[] fits = {"0", "01", "02", "03", "014", "025", "036"};
        for (int kind = 0; kind <= 6; kind++) {
            for (int k = 0; k <= 6; k++) due("taken " + kind + " for " + k, x.taken(kind, k), fits[kind].indexOf('0' + k) >= 0 ? kind : -12);
        }
        due("kind 7", x.taken(0, 7), -2);
        due("kind -1", x.taken(9, -1), -2);
        due("none", x.taken(7, 0), -11);
        due("none", x.taken(-1, 6), -11);
    }

    private static void p33() {
        promise = "33";
        FetchRope x = plain(30, 0, 20, 1);
        hill(x, "need 1");
        feed(x, "abc");
        x.plan(0, 1);
        x.book(0, 1);
        x.book(1, 1);
        x.act(0, 2, 1);
        int[] due = {2, 1, 1, 2, 3, 3};
        for (int what = 0; what <= 5; what++) due("count " + what, x.count(what), due[what]);
        due("count 6", x.count(6), -2);
        due("count -1", x.count(-1), -2);
    }

    private static void p34() {
        promise = "34";
        FetchRope x = new FetchRope();
        due("tape 6", x.tape(6, 0, 0), -1);
        due("tape -1", x.tape(-1, 5, 61), -1);
        due("sort 5", x.tape(0, 5, -1), -2);
        due("sort -2", x.tape(0, -2, 0), -2);
        due("n 61", x.tape(0, 0, 61), -2);
        due("n MAX", x.tape(0, 4, MAX), -2);
        due("n -1", x.tape(0, 0, -1), -14);
        due("n MIN", x.tape(0, 0, MIN), -14);
        for (int sort = 0; sort <= 4; sort++) {
            due("tape", x.tape(sort, sort, 60), 1);
            due("item", x.item(sort, 59, 1), 1);
            due("read", x.read(sort, 59), 1);
            due("anew", x.tape(sort, sort, 60), 1);
            due("read", x.read(sort, 59), 0);
        }
        due("refused", x.tape(0, 0, 61), -2);
        due("stays", x.read(0, 59), 0);
        due("nothing", x.tape(0, -1, -1), 1);
        due("read", x.read(0, 0), NO);
        due("nothing", x.tape(1, -1, 61), 1);
        due("n 0", x.tape(0, 3, 0), 1);
        due("read", x.read(0, 0), NO);
        due("item", x.item(0, 0, 1), -13);
    }

    private static void p35() {
        promise = "35, 36";
        FetchRope x = new FetchRope();
        long v = 0x8899aabbccddeeffL;
        long[] cut = {(byte) v, (short) v, (int) v, v, 1};
        for (int sort = 0; sort <= 4; sort++) {
            x.tape(sort, sort, 3);
            due("item", x.item(sort, 1, v), 1);
            due("read", x.read(sort, 1), cut[sort]);
            due("beside", x.read(sort, 0), 0);
            due("beside", x.read(sort, 2), 0);
            due("item 3", x.item(sort, 3, 1), -13);
            due("item -1", x.item(sort, -1, 1), -13);
            due("item MAX", x.item(sort, MAX, 1), -13);
            due("read 3", x.read(sort, 3), NO);
            due("read -1", x.read(sort, -1), NO);
        }
        due("256", x.item(4, 0, 256), 1);
        due("not 0", x.read(4, 0), 1);
        due("0", x.item(4, 0, 0), 1);
        due("0", x.read(4, 0), 0);
        x.item(0, 0, 128);
        due("128", x.read(0, 0), -128);
        x.item(1, 0, 32768);
        due("32768", x.read(1, 0), -32768);
        x.item(2, 0, 1L << 31);
        due("1 << 31", x.read(2, 0), MIN);
        x.item(3, 0, NO);
        due("the least long", x.read(3, 0), NO);
        due("nothing", x.item(5, 0, 0), -11);
        due("nothing", x.item(5, -1, 0), -11);
        due("tape 6", x.item(6, 0, 0), -1);
        due("tape -1", x.item(-1, 0, 0), -1);
        due("read 6", x.read(6, 0), NO);
        due("read -1", x.read(-1, 0), NO);
        due("read nothing", x.read(5, 0), NO);
    }

    private static void row(FetchRope x, int tape, int... items) {
        for (int i = 0; i < items.length; i++) due("item " + i, x.read(tape, i), items[i]);
    }

    private static void p37() {
        promise = "37";
        FetchRope x = new FetchRope();
        x.tape(0, 2, 5);
        x.tape(1, 2, 3);
        x.tape(2, 1, 5);
        x.tape(4, 2, 0);
        for (int i = 0; i < 5; i++) x.item(0, i, i + 1);
        due("forward over itself", x.shift(0, 0, 0, 1, 4), 4);
        row(x, 0, 1, 1, 2, 3, 4);
        due("back over itself", x.shift(0, 1, 0, 0, 4), 4);
        row(x, 0, 1, 2, 3, 4, 4);
        due("to another", x.shift(0, 1, 1, 0, 3), 3);
        row(x, 1, 2, 3, 4);
        row(x, 0, 1, 2, 3, 4, 4);
        due("one item", x.shift(0, 0, 1, 2, 1), 1);
        row(x, 1, 2, 3, 1);
        due("none at the ends", x.shift(0, 5, 1, 3, 0), 0);
        due("none of none", x.shift(4, 0, 0, 5, 0), 0);
        due("i beyond", x.shift(0, 6, 1, 0, 0), -13);
        due("j beyond", x.shift(0, 0, 1, 4, 0), -13);
        due("n beyond the one", x.shift(0, 3, 0, 0, 3), -13);
        due("n beyond the other", x.shift(0, 0, 1, 0, 4), -13);
        due("j + n beyond", x.shift(0, 0, 1, 1, 3), -13);
        due("i + n beyond", x.shift(1, 1, 0, 0, 3), -13);
        due("i + n wraps", x.shift(0, MAX, 1, 0, MAX), -13);
        due("i -1", x.shift(0, -1, 1, 0, 1), -13);
        due("j -1", x.shift(0, 0, 1, -1, 1), -13);
        due("n -1", x.shift(0, 1, 1, 1, -1), -13);
        due("n MIN", x.shift(0, 1, 1, 1, MIN), -13);
        due("unlike sorts", x.shift(0, 0, 2, 0, 1), -12);
        due("unlike sorts, no place", x.shift(2, -1, 0, 0, 99), -12);
        due("nothing", x.shift(0, 0, 5, 0, 1), -11);
        due("nothing", x.shift(5, 0, 0, 0, 1), -11);
        due("nothing to itself", x.shift(5, 0, 5, 0, 0), -11);
        due("tape 6", x.shift(6, 0, 5, 0, 0), -1);
        due("tape -1", x.shift(5, 0, -1, 0, 0), -1);
        row(x, 1, 2, 3, 1);
        row(x, 0, 1, 2, 3, 4, 4);
    }
}
