/** The boundaries of term 1's HILL and PULL and of promises 6 and 7: a case inside of each, a case outside. */
public final class HillBoundsTest {
    private static final int FINE = -1;

    public static void main(String[] args) {
        theText(); theHills(); newest(); blanks(); digits(); clauses(); shapes(); nested(); letters(); everyByte();
        relations(); values(); loadByTen(); hourByTwelve(); ofTheSledge(); together(); needAndRope(); pullsAtNought(); pullsByTheHour();
        Bounds.end("HillBoundsTest");
    }

    private static void due(String name, long got, long want) {
        Bounds.due(name, got, want);
    }

    /** A text alone on a new object, read after a HILL holds: its FAULT's place, or that it is a HILL. */
    private static void read(String name, String text, int place) {
        FetchRope x = Bounds.plain(50, 0, 20, 1);
        Bounds.hill(x, "snow 1 s=0;need 7;rope 8");
        due(name + ": '" + text + "' is fed", Bounds.feed(x, text), text.length());
        due(name + ": '" + text + "'", x.hill(), place == FINE ? 1 : -10 - place);
        due(name + ": THE TEXT is empty", x.count(4), 0);
        due(name + ": HILLS", x.count(1), place == FINE ? 2 : 1);
        if (place == FINE) return;
        due(name + ": the one that held holds, SNOW", x.of(0, 6), 51);
        due(name + ": the one that held holds, need", x.told(3), 7);
        due(name + ": the one that held holds, ROPE", x.told(4), 80);
        due(name + ": the next is read from its first byte on", Bounds.hill(x, "need 3"), 1);
    }

    private static void theText() {
        for (int sign : new int[] {0, 1, 126, 127}) due("6: sign " + sign, new FetchRope().feed(sign), 1);
        for (int sign : new int[] {-1, 128, 129, 255, 256, 256 + 's', Bounds.MIN, Bounds.MAX}) {
            Bounds.still("6: sign " + sign, Bounds::fresh, x -> x.feed(sign), Bounds.BAD);
            Bounds.still("6: sign " + sign + " behind others", Bounds::rich, x -> x.feed(sign), Bounds.BAD);
            Bounds.still("6: sign " + sign + " behind 100: BAD is told first", Bounds::full, x -> x.feed(sign), Bounds.BAD);
        }
        FetchRope x = new FetchRope();
        for (int n = 1; n <= 100; n++) due("6: byte " + n, x.feed('s'), n);
        due("6: byte 101", x.feed('s'), Bounds.FULL);
        due("6: byte 101 again", x.feed(0), Bounds.FULL);
        due("6: 100 stay", x.count(4), 100);
        due("7: all 100 go", x.hill(), -11);
        due("6: the first of a new text", x.feed('s'), 1);
        Bounds.still("6: byte 101", Bounds::full, y -> y.feed('1'), Bounds.FULL);

        hundred("7: a HILL of 100 bytes", padded(100), FINE, 1);
        hundred("7: its last byte counts", padded(92) + ";need 67", FINE, 67);
        hundred("7: the 101st is not in it", padded(93) + ";need 67", FINE, 6);
        hundred("7: 100 bytes end too early", padded(99) + "|", 100, 1);
        hundred("7: 100 bytes end too early", padded(97) + "|s=", 100, 1);
        hundred("7: 101 bytes of which 100 end too early", padded(97) + "|s=1", 100, 1);
        hundred("7: a FAULT in the last", padded(99) + "x", 99, 1);
        hundred("7: a FAULT in the last but one", padded(98) + "x|", 98, 1);
    }

    private static void hundred(String name, String text, int place, int need) {
        FetchRope x = new FetchRope();
        due(name + ": bytes", Bounds.feed(x, text), text.length() > 100 ? Bounds.FULL : 100);
        due(name + ": bytes", x.count(4), 100);
        due(name, x.hill(), place == FINE ? 0 : -10 - place);
        due(name + ": need", x.told(3), need);
    }

    /** A HILL of as many bytes. */
    private static String padded(int bytes) {
        int wide = (bytes - 10) % 4;
        return "snow 1 s=1" + "|s=12".repeat(wide) + "|s=3".repeat((bytes - 10 - 5 * wide) / 4);
    }

    private static void theHills() {
        FetchRope x = Bounds.plain(50, 0);
        due("7: without a HILL there are no CLAUSES: PULL", x.of(0, 6), 50);
        due("7: without a HILL: need", x.told(3), 1);
        due("7: without a HILL: ROPE", x.told(4), 990);
        for (int n = 0; n < 6; n++) {
            due("7: a FAULT takes no number", Bounds.hill(x, "ned"), -10 - 2);
            due("7: HILL " + n, Bounds.hill(x, "need " + (n + 2) + ";rope " + (n + 2)), n);
            due("33: HILLS", x.count(1), n + 1);
            due("7: it holds", x.told(3), n + 2);
        }
        Bounds.feed(x, "need 9");
        due("7: a seventh", x.hill(), Bounds.FULL);
        due("7: THE TEXT stays", x.count(4), 6);
        due("7: THE TEXT goes on", x.feed('9'), 7);
        due("7: the sixth holds: need", x.told(3), 7);
        due("7: the sixth holds: ROPE", x.told(4), 70);
        due("33: HILLS", x.count(1), 6);
        Bounds.still("7: a seventh", Bounds::full, y -> y.hill(), Bounds.FULL);
        Bounds.still("7: a seventh that would be a FAULT, and an empty one", HillBoundsTest::sixAndNoText, y -> y.hill(), Bounds.FULL);
        Bounds.still("7: a FAULT on an empty TEXT", Bounds::fresh, y -> y.hill(), -10);
        Bounds.still("7: a FAULT changes but THE TEXT", HillBoundsTest::heldByOne, y -> Bounds.hill(y, "need 9;rope 1;snow 5 s=0;snow 9 s"), -10 - 33);
    }

    private static FetchRope sixAndNoText() {
        FetchRope x = Bounds.plain(50, 0, 20, 1);
        for (int n = 0; n < 6; n++) Bounds.hill(x, "rope " + (n + 3));
        return x;
    }

    private static FetchRope heldByOne() {
        return Bounds.on("snow 9 s=0;need 3;rope 44", 50, 0, 20, 1);
    }

    private static void newest() {
        FetchRope x = Bounds.on("snow 9 s=0;need 3;rope 44", 50, 0);
        due("7: the first: PULL", x.of(0, 6), 59);
        due("7: a second of one CLAUSE", Bounds.hill(x, "need 4"), 1);
        due("7: nothing of the first is left: PULL", x.of(0, 6), 50);
        due("7: nothing of the first is left: ROPE", x.told(4), 990);
        due("7: its own", x.told(3), 4);
        due("7: a third of one CLAUSE", Bounds.hill(x, "rope 4"), 2);
        due("7: nothing of the second is left: need", x.told(3), 1);
        due("7: a faulty one", Bounds.hill(x, "snow 9 s=0;snow 8 s=0&s=0|s=0;slush 9 s=1;need 9;rope 9;"), -10 - 56);
        due("7: a fourth", Bounds.hill(x, "snow 3 s=1|s=0&s=0"), 3);
        due("7: nothing of the faulty one is left: PULL", x.of(0, 6), 53);
        due("7: nothing of the faulty one is left: need", x.told(3), 1);
        due("7: nothing of the faulty one is left: ROPE", x.told(4), 990);
        due("7: a faulty one", Bounds.hill(x, "snow 9 s=0;snow 8 s=0;"), -10 - 22);
        due("7: a fifth", Bounds.hill(x, "need 1"), 4);
        due("7: nothing of the faulty one is left: PULL", x.of(0, 6), 50);
        FetchRope y = Bounds.plain(50, 0);
        String long9 = "snow 9 s=0|s=0|s=0|s=0|s=0|s=0|s=0|s=0|s=0|s";
        for (int i = 0; i < 9; i++) due("7: a faulty one", Bounds.hill(y, long9), -10 - long9.length());
        due("7: a HILL behind nine faulty ones", Bounds.hill(y, "snow 3 s=1;slush 1 s=0"), 0);
        due("7: nothing of them is left: PULL", y.of(0, 6), 49);
    }

    private static void blanks() {
        for (String word : new String[] {"snow", "slush", "need", "rope"}) {
            int n = word.length();
            String e = word.startsWith("s") ? " s=1" : "";
            read("term 1: no blank ahead of n", word + "5" + e, n);
            read("term 1: one blank ahead of n", word + " 5" + e, FINE);
            read("term 1: two blanks ahead of n", word + "  5" + e, n + 1);
            read("term 1: a blank ahead of the word", " " + word + " 5" + e, 0);
            read("term 1: a blank behind it all", word + " 5" + e + " ", (word + " 5" + e).length());
            read("term 1: a blank behind ;", "need 1; " + word + " 5" + e, 7);
            read("term 1: a blank ahead of ;", word + " 5" + e + " ;need 1", (word + " 5" + e).length());
        }
        for (String word : new String[] {"snow", "slush"}) {
            int n = word.length();
            read("term 1: no blank ahead of E", word + " 5s=1", n + 2);
            read("term 1: no blank ahead of E", word + " 55s=1", n + 3);
            read("term 1: two blanks ahead of E", word + " 5  s=1", n + 3);
            for (String e : new String[] {"s =1", "s= 1", "s=1 |s=2", "s=1| s=2", "s=1& s=2", "! s=1", "( s=1)", "(s=1 )"}) {
                read("term 1: a blank within E", word + " 5 " + e, n + 3 + e.indexOf(' '));
            }
        }
        read("term 1: need has no E", "need 5 s=1", 6);
        read("term 1: rope has no E", "rope 5 s=1", 6);
        read("term 1: snow has an E", "snow 5", 6);
        read("term 1: slush has an E", "slush 5", 7);
        read("term 1: snow has an E, ahead of ;", "snow 5;need 1", 6);
    }

    private static void digits() {
        for (String word : new String[] {"snow", "slush", "need", "rope"}) {
            int n = word.length() + 1;
            String e = word.startsWith("s") ? " s=1" : "";
            read("term 1: n of no digit", word + " " + e, n);
            read("term 1: n of no digit, and the end", word + " ", n);
            for (String digits : new String[] {"0", "9", "00", "09", "10", "99"}) read("term 1: n of " + digits, word + " " + digits + e, FINE);
            for (String digits : new String[] {"000", "100", "999"}) read("term 1: n of three digits", word + " " + digits + e, n + 2);
            read("term 1: n below 0", word + " -1" + e, n);
            read("term 1: n of the sign ahead of 0", word + " /" + e, n);
            read("term 1: n of the sign behind 9", word + " :" + e, n);
            read("term 1: a second sign that is none", word + " 1/" + e, n + 1);
            read("term 1: a second sign that is none", word + " 1:" + e, n + 1);
        }
        for (char letter : "skvdlh".toCharArray()) {
            for (char relation : "<=>".toCharArray()) {
                String test = "snow 5 " + letter + relation;
                read("term 1: a TEST of no digit", test, 9);
                read("term 1: a TEST of no digit ahead of ;", test + ";", 9);
                for (String digits : new String[] {"0", "9", "00", "09", "99"}) read("term 1: a TEST's number", test + digits, FINE);
                read("term 1: a TEST of three digits", test + "100", 11);
            }
        }
    }

    private static String times(String part, int n) {
        return ";".concat(part).repeat(n).substring(1);
    }

    private static void clauses() {
        read("term 1: no CLAUSE", "", 0);
        read("term 1: one CLAUSE", "need 5", FINE);
        read("term 1: nine", times("need 5", 9), FINE);
        read("term 1: ten", times("need 5", 10), FINE);
        read("term 1: ten and ;", times("need 5", 10) + ";", 69);
        read("term 1: eleven", times("need 5", 11), 69);
        read("term 1: nine and ;", times("need 5", 9) + ";", 63);
        read("term 1: ten of a wide n", times("rope 55", 10), FINE);
        read("term 1: ten of a wide n and ;", times("rope 55", 10) + ";", 79);
        read("term 1: the tenth is at fault", times("need 5", 9) + ";neet 5", 66);
        read("term 1: ; alone", ";", 0);
        read("term 1: ; ahead", ";need 5", 0);
        read("term 1: ; twice", "need 5;;need 5", 7);
        read("term 1: ; at the end", "need 5;", 7);
        read("term 1: nothing between two", "need 5need 5", 6);
        read("term 1: another sign between two", "need 5,need 5", 6);
        FetchRope x = Bounds.on(times("snow 9 s<9", 9), 10, 0);
        due("term 1: nine of snow count", x.of(0, 6), 10 + 9 * 9);
        due("term 1: the tenth counts", Bounds.hill(x, times("need 1", 9) + ";snow 7 s=0"), 1);
        due("term 1: the tenth counts", x.of(0, 6), 17);
        due("term 1: the tenth need counts", Bounds.hill(x, times("need 1", 9) + ";need 8"), 2);
        due("term 1: the tenth need counts", x.told(3), 8);
    }

    private static void shapes() {
        Object[][] cases = {
            {"s=1|s=2", FINE}, {"s=1|", 4}, {"|s=1", 0}, {"s=1||s=2", 4}, {"s=1&s=2", FINE}, {"s=1&", 4}, {"&s=1", 0}, {"s=1&&s=2", 4},
            {"s=1&|s=2", 4}, {"s=1|&s=2", 4}, {"s=1s=2", 3}, {"s=1!s=2", 3}, {"s=1(s=2)", 3}, {"!s=1", FINE}, {"!", 1}, {"!|s=1", 1},
            {"!&", 1}, {"!)", 1}, {"s!=1", 1}, {"(s=1)", FINE}, {"()", 1}, {"(", 1}, {")", 0}, {"(s=1", 4}, {"(s=1;need 2", 4}, {"s=1)", 3},
            {"(s=1))", 5}, {"(s=1)(s=2)", 5}, {"(s=1)s=2", 5}, {"(s=1)|s=2", FINE}, {"s=2&(s=1)", FINE}, {"(s=1|)", 5}, {"(|s=1)", 1},
            {"(s=1|s=2", 8}, {"(s=1&s=2)", FINE}, {"!(s=1)", FINE}, {"(!s=1)", FINE}, {"(s=1!)", 4}, {"(s=1)!", 5}, {"", 0}, {"1=s", 0},
            {"s", 1}, {"s=", 2}, {"s1", 1}, {"s==1", 2}, {"s<=1", 2}, {"s>=1", 2}, {"s<>1", 2}, {"=1", 0}, {"ss=1", 1}, {"s=s", 2},
        };
        for (Object[] c : cases) {
            int place = (Integer) c[1];
            read("term 1: E", "snow 5 " + c[0], place == FINE ? FINE : 7 + place);
            read("term 1: E", "slush 55 " + c[0], place == FINE ? FINE : 9 + place);
        }
    }

    private static void nested() {
        String[] fine = {"!!!!s=1", "((((s=1))))", "!(!(s=1))", "(!(!s=1))", "!!((s=1))", "((!!s=1))", "(((s=1)&((s=2))))", "((((s=1))))|((((s=2))))",
            "!!!!s=1&!!!!s=2", "(!!!s=1&!!!s=2)", "((((s=1)|(s=2))))"};
        for (String e : fine) read("term 1: within 3 others", "snow 5 " + e, FINE);
        Object[][] faults = {{"!!!!!s=1", 4}, {"(((((s=1)))))", 4}, {"!(!(!s=1))", 4}, {"(!(!(s=1)))", 4}, {"!!!!(s=1)", 4}, {"((((!s=1))))", 4},
            {"((((s=1|(s=2)))))", 8}, {"((((s=1&!s=2))))", 8}, {"((((s=1)|(s=2)&(s=3))))&(((((", 28}, {"(((!s=1&!(s=2))))", 9},
            {"!!!!s=1|!!!!!s=2", 12}, {"((((s=1))))&(((((s=2)))))", 16}};
        for (Object[] f : faults) read("term 1: within 4 others", "snow 5 " + f[0], 7 + (Integer) f[1]);
        // What a ( or ! has behind it is not within it any more.
        read("term 1: one behind another", "snow 5 (s=1)&(s=2)&(s=3)&(s=4)&(s=5)&(s=6)", FINE);
        read("term 1: one behind another", "snow 5 !s=1&!s=2&!s=3&!s=4&!s=5&!s=6", FINE);
        read("term 1: one behind another in 3", "snow 5 (((!s=1&!s=2&(s=3)&(s=4)&!s=5)))", FINE);
    }

    private static void letters() {
        for (int c = 0; c <= 127; c++) {
            if (c == '(' || c == '!') continue;
            read("term 1: the letter " + c, "snow 5 " + (char) c + "=1", "skvdlh".indexOf(c) >= 0 ? FINE : 7);
            read("term 1: the relation " + c, "snow 5 s" + (char) c + "1", "<=>".indexOf(c) >= 0 ? FINE : 8);
        }
    }

    /** Another byte in each place of a text, and a byte less or more there: the FAULT is where the Model finds it. */
    private static void everyByte() {
        String[] texts = {"snow 12 !(s<1|k=22)&d>3;need 4;rope 56", "slush 7 ((((h>11))))|!!!!l=9;snow 0 v<9", "rope 1;slush 99 (!s=1)&(d=0|l>6);need 10"};
        for (String text : texts) {
            for (int at = 0; at <= text.length(); at++) {
                byItself(text.substring(0, at));
                if (at < text.length()) byItself(text.substring(0, at) + text.substring(at + 1));
                for (char c = 0; c <= 127; c++) {
                    byItself(text.substring(0, at) + c + text.substring(at));
                    if (at < text.length()) byItself(text.substring(0, at) + c + text.substring(at + 1));
                }
            }
        }
    }

    private static void byItself(String text) {
        int place = Model.fault(text);
        FetchRope x = new FetchRope();
        due("7: '" + text + "'", Bounds.hill(x, text), place < 0 ? 0 : -10 - place);
    }

    /** Whether E holds of a SLEDGE, by the SNOW that it brings. */
    private static void holds(String name, FetchRope x, int sledge, String e, boolean want) {
        Bounds.hill(x, "need 1");
        int without = x.of(sledge, 6);
        due(name + ": the HILL of " + e, Bounds.hill(x, "snow 31 " + e) >= 0 ? 1 : 0, 1);
        due(name + ": " + e, x.of(sledge, 6) - without, want ? 31 : 0);
    }

    /** A fact that is n: < n + 1, = n and > n - 1 hold, < n, = n - 1, = n + 1 and > n don't. */
    private static void around(String name, int sledge, char letter, int n) {
        for (int number = Math.max(0, n - 1); number <= n + 1; number++) {
            FetchRope x = marked();
            holds(name, x, sledge, letter + "<" + number, n < number);
            holds(name, x, sledge, letter + "=" + number, n == number);
            FetchRope y = marked();
            holds(name, y, sledge, letter + ">" + number, n > number);
            if (number < 10) holds(name + ", with a 0 ahead", y, sledge, letter + "=0" + number, n == number);
        }
    }

    /** Where each fact is another: 2 is a LADEN one, v 5, LOAD 79, on SIDE 1. */
    private static FetchRope marked() {
        FetchRope x = new FetchRope();
        x.sledge(0, 0, 0, 0, 0, 0);
        x.sledge(0, 9, 9, 0, 0, 0);
        x.sledge(1, 5, 79, 1, 0, 0);
        x.sledge(4, 9, 99, 0, 1, 0);
        x.sledge(0, 1, 10, 1, 1, 0);
        x.sledge(0, 8, 19, 0, 0, 0);
        x.sledge(1, 9, 90, 1, 1, 0);
        return x;
    }

    private static void relations() {
        int[] v = {0, 9, 5, 9, 1, 8, 9};
        int[] kind = {0, 0, 1, 4, 0, 0, 1};
        for (int s = 0; s < 7; s++) {
            around("term 1: s", s, 's', s);
            around("term 1: v", s, 'v', v[s]);
            around("term 1: k", s, 'k', kind[s]);
            around("term 1: d", s, 'd', new int[] {0, 0, 1, 0, 1, 0, 1}[s]);
        }
        FetchRope x = marked();
        holds("term 1: 99", x, 3, "v<99", true);
        holds("term 1: 99", x, 3, "v=99", false);
        FetchRope y = marked();
        holds("term 1: 99", y, 3, "v>99", false);
        holds("term 1: 0", y, 3, "v>00", true);
    }

    interface Value { boolean of(boolean a, boolean b, boolean c); }

    private static void values() {
        value("a", (a, b, c) -> a);
        value("!a", (a, b, c) -> !a);
        value("!!a", (a, b, c) -> a);
        value("a|b", (a, b, c) -> a || b);
        value("a&b", (a, b, c) -> a && b);
        value("a|b|c", (a, b, c) -> a || b || c);
        value("a&b&c", (a, b, c) -> a && b && c);
        value("a|b&c", (a, b, c) -> a || b && c);
        value("a&b|c", (a, b, c) -> a && b || c);
        value("(a|b)&c", (a, b, c) -> (a || b) && c);
        value("a&(b|c)", (a, b, c) -> a && (b || c));
        value("!a&b", (a, b, c) -> !a && b);
        value("!a|b", (a, b, c) -> !a || b);
        value("!(a&b)", (a, b, c) -> !(a && b));
        value("!(a|b)&c", (a, b, c) -> !(a || b) && c);
        value("!(!a&b)|c", (a, b, c) -> !(!a && b) || c);
        value("a&b|b&c|a&c", (a, b, c) -> a && b || b && c || a && c);
        value("(a|b)&(b|c)&(a|c)", (a, b, c) -> (a || b) && (b || c) && (a || c));
        value("!(a|!(b&c))", (a, b, c) -> !(a || !(b && c)));
        value("(a&b|c)&!(a&c)", (a, b, c) -> (a && b || c) && !(a && c));
        value("a|b&(c|a&(b|c&(a|b)))", (a, b, c) -> a || b && (c || a && (b || c && (a || b))));
        value("c&!(b|a&!(c|b))|a&!b", (a, b, c) -> c && !(b || a && !(c || b)) || a && !b);
    }

    /** E of three TESTS, of each way in which they hold. */
    private static void value(String e, Value due) {
        String text = "snow 31 " + e.replace("a", "v>2").replace("b", "l=5").replace("c", "d=1");
        for (int a = 0; a <= 1; a++) {
            FetchRope x = new FetchRope();
            for (int bits = 0; bits < 4; bits++) x.sledge(0, 3 * a, bits >= 2 ? 50 : 49, bits & 1, 0, 0);
            due("term 1: the HILL of " + e, Bounds.hill(x, text), 0);
            for (int bits = 0; bits < 4; bits++) {
                boolean holds = due.of(a == 1, bits >= 2, (bits & 1) == 1);
                due("term 1: " + e + " of " + a + ", " + bits, x.of(bits, 6), (bits >= 2 ? 50 : 49) + (holds ? 31 : 0));
            }
        }
    }

    private static void loadByTen() {
        int[] load = {0, 9, 79, 99, 10, 19, 90};
        for (int s = 0; s < 7; s++) around("term 1: l of LOAD " + load[s], s, 'l', load[s] / 10);
        for (int n : new int[] {0, 9, 10, 11, 19, 20, 89, 90, 99}) {
            FetchRope x = Bounds.plain(50, 0);
            Bounds.hill(x, "snow 31 l=" + n / 10);
            x.set(0, 0, n);
            due("term 1: l of LOAD " + n, x.of(0, 6), n + 31);
        }
    }

    private static void hourByTwelve() {
        FetchRope x = Bounds.on("snow 1 h=0;snow 2 h=11;snow 4 h=12;snow 8 h>10;snow 16 h<1;snow 32 h=1", 0, 0);
        int[] due = {17, 32, 0, 0, 0, 0, 0, 0, 0, 0, 0, 10};
        for (int hour = 0; hour <= 36; hour++) {
            due("term 1: h at HOUR " + hour, x.of(0, 6), due[hour % 12]);
            x.hour();
        }
    }

    private static void ofTheSledge() {
        FetchRope x = Bounds.on("snow 7 s=0&d=0;snow 9 s=0&d=1;need 0", 50, 0, 20, 1);
        due("term 1: d on SIDE 0", x.of(0, 6), 57);
        due("9: a RUN", x.run(0, 1), 1);
        due("9: WORN is by the SIDES that they leave", x.told(1), 77);
        due("term 1: d on SIDE 1", x.of(0, 6), 59);
        due("term 1: of another one", x.of(1, 6), 20);
    }

    private static void together() {
        FetchRope x = Bounds.on("snow 5 s=0;snow 6 s=0;slush 4 s=0;slush 3 s=0;snow 99 s=1", 50, 0);
        due("term 1: all snow and all slush", x.of(0, 6), 50 + 11 - 7);
        Bounds.hill(x, "snow 99 s=0;snow 99 s=0;snow 99 s=0;snow 99 s=0;snow 99 s=0;snow 99 s=0;snow 99 s=0;snow 99 s=0");
        due("term 1: eight times 99", x.of(0, 6), 50 + 792);
        Bounds.hill(x, "snow 0 s=0;slush 00 s=0");
        due("term 1: n 0", x.of(0, 6), 50);
        Bounds.hill(x, "slush 49 s=0");
        due("term 1: just above 0", x.of(0, 6), 1);
        Bounds.hill(x, "slush 50 s=0");
        due("term 1: just 0", x.of(0, 6), 0);
        Bounds.hill(x, "slush 51 s=0");
        due("term 1: below 0", x.of(0, 6), 0);
    }

    private static void needAndRope() {
        FetchRope x = Bounds.on("snow 1 s=9", 50, 0);
        due("term 1: need without", x.told(3), 1);
        due("term 1: ROPE without", x.told(4), 990);
        Bounds.hill(x, "need 0;rope 0");
        due("term 1: need 0", x.told(3), 0);
        due("term 1: ROPE 0", x.told(4), 0);
        Bounds.hill(x, "need 99;rope 99");
        due("term 1: need 99", x.told(3), 99);
        due("term 1: ROPE 990", x.told(4), 990);
        Bounds.hill(x, "need 5;rope 6;need 04;snow 1 s=0;rope 1");
        due("term 1: the last need", x.told(3), 4);
        due("term 1: the last rope", x.told(4), 10);

        FetchRope y = Bounds.on("need 11", 30, 0, 20, 1);
        due("term 1: 10 apart, need 11", y.with(0), 0);
        Bounds.hill(y, "need 10");
        due("term 1: 10 apart, need 10", y.with(0), 2);
        due("term 1: 10 apart the other way", y.with(1), 1);
        Bounds.hill(y, "need 0;rope 4");
        due("term 1: together 50, ROPE 40", y.with(0), 0);
        Bounds.hill(y, "need 0;rope 5");
        due("term 1: together 50, ROPE 50", y.with(0), 2);
        y.set(0, 0, 31);
        due("term 1: together 51, ROPE 50", y.with(0), 0);
        y.set(0, 0, 20);
        due("term 1: alike, need 0", y.with(0), 2);
        Bounds.hill(y, "need 1");
        due("term 1: alike, need 1", y.with(0), 0);
        y.set(0, 0, 0);
        y.set(1, 0, 0);
        Bounds.hill(y, "need 0;rope 0");
        due("term 1: together 0, ROPE 0", y.with(0), 2);
    }

    private static int pull(int kind, int v, int load, String text, int hours) {
        FetchRope x = new FetchRope();
        x.sledge(kind, v, load, 0, 0, 0);
        Bounds.hill(x, text);
        for (int i = 0; i < hours; i++) x.hour();
        return x.of(0, 6);
    }

    private static void pullsAtNought() {
        String five = "slush 5 s=0";
        due("term 1: SLEDGE at 0", pull(0, 9, 5, five, 0), 0);
        due("term 1: SLEDGE below", pull(0, 9, 4, five, 0), 0);
        due("term 1: SLEDGE above", pull(0, 9, 6, five, 0), 1);
        due("term 1: LADEN, taken from -3", pull(1, 9, 2, five, 0), 6);
        due("term 1: LADEN at 0", pull(1, 3, 2, five, 0), 0);
        due("term 1: LADEN above", pull(1, 4, 2, five, 0), 1);
        due("term 1: LADEN below", pull(1, 2, 2, five, 0), 0);
        due("term 1: EMPTY, half of 1", pull(2, 9, 6, five, 0), 0);
        due("term 1: EMPTY, half of 2", pull(2, 9, 7, five, 0), 1);
        due("term 1: EMPTY, half of 3", pull(2, 9, 8, five, 0), 1);
        due("term 1: EMPTY, half of -1", pull(2, 9, 4, five, 0), 0);
        due("term 1: EMPTY, half of -3", pull(2, 9, 2, five, 0), 0);
        due("term 1: BRAKED at 0", pull(3, 2, 9, five, 0), 0);
        due("term 1: BRAKED above", pull(3, 2, 10, five, 0), 1);
        due("term 1: BRAKED below", pull(3, 2, 8, five, 0), 0);
        due("term 1: GIFT, taken from -3, even", pull(4, 9, 2, five, 2), 6);
        due("term 1: GIFT, taken from -3, odd", pull(4, 9, 2, five, 1), 12);
        due("term 1: GIFT below", pull(4, 2, 2, five, 1), 0);
        due("term 1: CHILD by the half", pull(5, 9, 7, five, 1), 1);
        due("term 1: CHILD by v", pull(5, 9, 0, five, 0), 9);
        due("term 1: CHILD by v 0", pull(5, 0, 99, five, 0), 0);
        for (int load = 0; load <= 9; load++) {
            FetchRope x = new FetchRope();
            x.sledge(6, 2, load, 0, 0, 0);
            x.row(0, 0, 9);
            Bounds.hill(x, five);
            due("term 1: TOLD, taken from " + (load - 9), x.of(0, 6), load);
            x.row(0, 0, 4);
            due("term 1: TOLD, 5 less", x.of(0, 6), Math.max(0, load - 5));
        }
    }

    private static void pullsByTheHour() {
        for (int hour = 0; hour <= 13; hour++) {
            due("term 1: GIFT at HOUR " + hour, pull(4, 3, 20, "need 1", hour), hour % 2 == 1 ? 46 : 23);
            due("term 1: CHILD at HOUR " + hour, pull(5, 3, 20, "need 1", hour), hour % 3 == 0 ? 3 : 10);
            FetchRope x = new FetchRope();
            x.sledge(6, 1, 20, 0, 0, 0);
            for (int part = 0; part < 4; part++) x.row(0, part, 9 - 2 * part);
            for (int i = 0; i < hour; i++) x.hour();
            due("term 1: TOLD at HOUR " + hour, x.of(0, 6), 18 + 9 - 2 * (hour % 4));
            x.row(0, hour % 4, 0);
            due("5: the ROW's number at HOUR " + hour, x.of(0, 6), 18);
        }
    }
}
