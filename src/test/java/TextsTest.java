/** Promises 15 to 18: THE TAPE, texts, what they give. */
final class TextsTest {
    private static final int MIN = Integer.MIN_VALUE;
    private static final int MAX = Integer.MAX_VALUE;

    private TextsTest() {
    }

    static void all() {
        Due.test("promise 15, feed", TextsTest::feed);
        Due.test("promise 15, feed brings the lowest byte first", TextsTest::feedOrder);
        Due.test("promise 16, text", TextsTest::text);
        Due.test("promise 16, faults", TextsTest::faults);
        Due.test("promise 16, at most 5 open", TextsTest::open);
        Due.test("promise 17, untell", TextsTest::untell);
        Due.test("promise 18, law", TextsTest::law);
        Due.test("promise 18, what texts are worth", TextsTest::worth);
        Due.test("promise 18, wraps and rests", TextsTest::wraps);
    }

    private static void feed() {
        WalkFences x = new WalkFences();
        Due.is(x.feed(0x61, 0), Due.BEYOND);
        Due.is(x.feed(0x61, 9), Due.BEYOND);
        Due.is(x.feed(0x61, -1), Due.BEYOND);
        Due.is(x.feed(0x61, MIN), Due.BEYOND);
        for (int i = 1; i <= 7; i++) {
            Due.is(x.feed(-1L, 8), 8 * i);
        }
        Due.is(x.feed(0, 5), Due.FULL);
        Due.is(x.feed(0, 9), Due.BEYOND);
        Due.is(x.count(5), 56);
        Due.is(x.feed(0, 4), 60);
        Due.is(x.feed(0, 1), Due.FULL);
        Due.is(x.count(5), 60);
        Due.is(x.text(0), -10);
        Due.is(x.count(5), 0);
        Due.is(x.told(4), 2);
    }

    private static void feedOrder() {
        WalkFences x = new WalkFences();
        // "12345678" by its lowest bytes: of 3 of them, the text is 123.
        long word = 0x3837363534333231L;
        Due.is(x.feed(word, 3), 3);
        Due.is(x.text(0), 1);
        Due.is(x.law(0, 0, 0, 0), 123);
        Due.is(x.feed(word, 1), 1);
        Due.is(x.feed(0x2B, 1), 2);
        Due.is(x.feed(word, 2), 4);
        Due.is(x.text(0), 1);
        Due.is(x.law(0, 0, 0, 0), 13);
        Due.is(x.feed(word, 8), 8);
        Due.is(x.text(0), -14);
    }

    private static void text() {
        WalkFences x = new WalkFences();
        Given.tape(x, "a");
        Due.is(x.text(-1), Due.BEYOND);
        Due.is(x.text(2), Due.BEYOND);
        Due.is(x.count(5), 1);
        Due.is(x.text(0), 1);
        Due.is(x.count(5), 0);
        Due.is(x.law(0, 7, 5, 3), 7);
        Due.is(Given.text(x, 0, "p"), 1);
        Due.is(x.law(0, 7, 5, 3), 5);
        // A FAULT leaves the one ahead, and empties THE TAPE.
        Due.is(Given.text(x, 0, "k+"), -12);
        Due.is(x.count(5), 0);
        Due.is(x.law(0, 7, 5, 3), 5);
        Due.is(x.text(0), -10);
        Due.is(x.law(0, 7, 5, 3), 5);
        Due.is(x.law(1, 0, 3, 0), 4);
        Due.is(x.told(1), 2);
        Due.is(x.told(2) + x.told(3) + x.told(4) + x.told(5) + x.told(6), 0);
        // The longest.
        StringBuilder longest = new StringBuilder("a");
        while (longest.length() < 59) {
            longest.append("+1");
        }
        Due.is(Given.text(x, 0, longest.toString()), 1);
        Due.is(x.law(0, 1, 0, 0), 30);
        Due.is(Given.text(x, 0, longest + "+"), -70);
    }

    private static void faults() {
        Object[][] rows = {
            {0, "", 0}, {0, "a+c", 2}, {0, "b", 0}, {1, "a", 0}, {1, "c+b*d", -1}, {0, "a+p*k", -1},
            {0, "1234", -1}, {0, "12345", 4}, {0, "0000", -1}, {0, "00001", 4}, {0, "1a", 1}, {0, "a1", 1},
            {0, "aa", 1}, {0, "a a", 1}, {0, " a", 0}, {0, "a<p<k", 3}, {0, "a<p=k", 3}, {0, "a<p&p>k", -1},
            {0, "(a<p)<k", -1}, {0, "a<(p<k)", -1}, {0, "a|p|k&a&p", -1}, {0, "a||p", 2}, {0, "a&", 2},
            {0, "-1", 0}, {0, "a--1", 2}, {0, "a*-1", 2}, {0, "a+!p", -1}, {0, "!", 1}, {0, "!!a", -1},
            {0, "a!p", 1}, {0, "a!=p", 1}, {0, "a<=p", 2}, {0, "()", 1}, {0, "(a", 2}, {0, "(a))", 3},
            {0, "a)", 1}, {0, "(a)(p)", 3}, {0, "(a)p", 3}, {0, "(a+)", 3}, {0, "A", 0}, {0, "a^p", 1},
            {0, "a\u0000", 1}, {0, "a\u00e1", 1}, {0, "\u00ff", 0}, {0, "a%p/k*2", -1}, {0, "a%%", 2},
            {0, "(((((a)))))", -1}, {0, "(a<p<k)", 4}, {0, "(1|a<p)=k>a", 9}, {0, "(12345)", 5}, {1, "k", 0},
            {1, "p", 0}, {0, "d", 0}, {1, "c|b&d", -1}, {0, "a/0", -1}, {0, "1.5", 1}, {0, "a,p", 1},
        };
        WalkFences x = new WalkFences();
        for (Object[] row : rows) {
            int fault = (Integer) row[2];
            int got = Given.text(x, (Integer) row[0], (String) row[1]);
            if (got != (fault < 0 ? 1 : -10 - fault)) {
                Due.fail("the text " + row[1] + " answered " + got);
            }
            x.count(5);
        }
    }

    private static void open() {
        WalkFences x = new WalkFences();
        Due.is(Given.text(x, 0, "!!!!!a"), 1);
        Due.is(Given.text(x, 0, "!!!!!!a"), -15);
        Due.is(Given.text(x, 0, "((((((a))))))"), -15);
        Due.is(Given.text(x, 0, "!(!(!a))"), 1);
        Due.is(Given.text(x, 0, "!(!(!(a)))"), -15);
        Due.is(Given.text(x, 0, "!(!(!!a))"), -15);
        // Those that are done are not open: ! by its operand, ( by its ).
        Due.is(Given.text(x, 0, "!a+!a+!a+!a+!a+!a+!a"), 1);
        Due.is(Given.text(x, 0, "(a)+(a)+(a)+(a)+(a)+(a)"), 1);
        Due.is(Given.text(x, 0, "((((!a+!p))))"), 1);
        Due.is(Given.text(x, 0, "((((!a+!!p))))"), -18);
        Due.is(Given.text(x, 0, "!(((a+(p))))"), 1);
        Due.is(Given.text(x, 0, "!((((a+(p)))))"), -17);
    }

    private static void untell() {
        WalkFences x = new WalkFences();
        Due.is(x.untell(0), 0);
        Given.text(x, 0, "7");
        Given.text(x, 1, "0");
        Due.is(x.law(0, 0, 1, 0), 7);
        Due.is(x.untell(0), 1);
        Due.is(x.untell(0), 0);
        Due.is(x.law(0, 2, 1, 9), 3);
        Due.is(x.law(1, 0, 2, 0), 0);
        Due.is(x.untell(1), 1);
        Due.is(x.law(1, 0, 2, 0), 3);
        Given.tape(x, "5");
        Due.is(x.untell(-1), Due.BEYOND);
        Due.is(x.untell(2), Due.BEYOND);
        Due.is(x.untell(0), 0);
        Due.is(x.count(5), 1);
    }

    private static void law() {
        WalkFences x = new WalkFences();
        Due.is(x.law(-1, 0, 0, 0), Due.BEYOND);
        Due.is(x.law(2, 0, 0, 0), Due.BEYOND);
        Due.is(x.law(0, 3, 4, 100), 7);
        Due.is(x.law(0, 995, 4, 0), 999);
        Due.is(x.law(0, 995, 5, 0), 999);
        Due.is(x.law(0, -5, 4, 0), 0);
        Due.is(x.law(1, 100, 0, 100), 1);
        Due.is(x.law(1, 0, -1, 0), 0);
        Due.is(x.law(1, 0, 8, 0), 9);
        Due.is(x.law(1, 0, 9, 0), 9);
        Due.is(x.law(1, 0, -10, 0), -9);
        Due.is(x.law(1, 0, -11, 0), -9);
        Due.is(x.law(0, MAX, 1, 0), 0);
        Due.is(x.law(1, 0, MAX, 0), -9);
        Given.text(x, 0, "a*100+p*10+k");
        Due.is(x.law(0, 1, 2, 3), 123);
        Due.is(x.law(0, 9, 9, 9), 999);
        Due.is(x.law(0, 10, 0, 0), 999);
        Due.is(x.law(0, -1, 0, 0), 0);
        Given.text(x, 1, "c*4+b*2+d");
        Due.is(x.law(1, 1, 1, 1), 7);
        Due.is(x.law(1, 1, -1, 0), 2);
        Due.is(x.law(1, 9, 9, 9), 9);
        Due.is(x.law(1, -9, 0, 0), -9);
        Due.is(x.count(2), 0);
    }

    /** What a GRAZE text is worth with a 5, p 3, k 0; held within 0 .. 999. */
    private static void isWorth(String text, int worth) {
        WalkFences x = new WalkFences();
        Due.is(Given.text(x, 0, text), 1);
        int got = x.law(0, 5, 3, 0);
        if (got != worth) {
            Due.fail("the text " + text + " is worth " + got + ", due is " + worth);
        }
    }

    private static void worth() {
        isWorth("9999", 999);
        isWorth("0007", 7);
        isWorth("a+p*2", 11);
        isWorth("(a+p)*2", 16);
        isWorth("a-p-1", 1);
        isWorth("9-(a-p)", 7);
        isWorth("100/a/p", 6);
        isWorth("17%a*p", 6);
        isWorth("2*7/4", 3);
        isWorth("7/4*2", 2);
        isWorth("(0-7)/2+10", 7);
        isWorth("(0-7)%4+10", 7);
        isWorth("7%(0-4)", 3);
        isWorth("a/k+7", 7);
        isWorth("a%k+7", 7);
        isWorth("7/(a-5)", 0);
        isWorth("a>p", 1);
        isWorth("a<p", 0);
        isWorth("a=p", 0);
        isWorth("a=5", 1);
        isWorth("a>5", 0);
        isWorth("a<5", 0);
        isWorth("1+1=2", 1);
        isWorth("2=1+1", 1);
        isWorth("(1=2)+3", 3);
        isWorth("a&p", 1);
        isWorth("a&k", 0);
        isWorth("k&a", 0);
        isWorth("k|a", 1);
        isWorth("a|k", 1);
        isWorth("k|k", 0);
        isWorth("6&3", 1);
        isWorth("6|1", 1);
        isWorth("1|0&0", 1);
        isWorth("(1|0)&0", 0);
        isWorth("1|1=0", 1);
        isWorth("2&2=2", 1);
        isWorth("4&1<2", 1);
        isWorth("!a", 0);
        isWorth("!k", 1);
        isWorth("!!a", 1);
        isWorth("!k+7", 8);
        isWorth("!a*7", 0);
        isWorth("!(a-5)", 1);
        isWorth("a*!k", 5);
        isWorth("!k*9", 9);
        isWorth("(0-1)&1", 1);
        isWorth("!(0-1)", 0);
        isWorth("1-2-3+9", 5);
        isWorth("a*p-k*9+100%7", 17);
        isWorth("((((a))))", 5);
        isWorth("((a<p)|(a>p))*50", 50);
    }

    private static void wraps() {
        WalkFences x = new WalkFences();
        Given.text(x, 0, "a*p");
        Due.is(x.law(0, 65536, 65536, 0), 0);
        Due.is(x.law(0, 65537, 65536, 0), 999);
        Due.is(x.law(0, 65535, 65537, 0), 0);
        Given.text(x, 0, "a/p+9");
        Due.is(x.law(0, MIN, -1, 0), 0);
        Due.is(x.law(0, -7, 2, 0), 6);
        Due.is(x.law(0, MAX, 0, 0), 9);
        Given.text(x, 0, "a%p+9");
        Due.is(x.law(0, MIN, -1, 0), 9);
        Due.is(x.law(0, -7, 4, 0), 6);
        Due.is(x.law(0, MIN, 0, 0), 9);
        Given.text(x, 0, "a+p");
        Due.is(x.law(0, MAX, MAX, 0), 0);
        Due.is(x.law(0, MIN, MIN, 0), 0);
        Due.is(x.law(0, MIN, -MAX, 0), 1);
        Given.text(x, 0, "a-p");
        Due.is(x.law(0, MIN, MAX, 0), 1);
        Given.text(x, 0, "a<p");
        Due.is(x.law(0, MIN, MAX, 0), 1);
        Due.is(x.law(0, MAX, MIN, 0), 0);
        Given.text(x, 0, "a>p");
        Due.is(x.law(0, MAX, MIN, 0), 1);
        Given.text(x, 0, "!k");
        Due.is(x.law(0, 0, 0, MIN), 0);
    }
}
