/** Boundary cases of section 2 of Terms and of promises 15 to 18: THE TAPE, TEXTS, what they give. */
final class TextBounds {
    private static final int MIN = Integer.MIN_VALUE;
    private static final int MAX = Integer.MAX_VALUE;

    private TextBounds() {
    }

    static void all() {
        tape();
        joins();
        operands();
        blanks();
        open();
        wraps();
        zeroes();
        truths();
        faults();
        graze();
        feedUse();
        feed();
        text();
        faulty();
        untell();
        law();
    }

    /** Each of these is a TEXT of GRAZE. */
    private static void areTexts(String... texts) {
        for (String text : texts) {
            if (Given.text(new WalkFences(), 0, text) != 1) {
                Due.fail("\"" + text + "\" is a TEXT");
            }
        }
    }

    /** For GRAZE, the FAULT of a text is so. */
    private static void faultIs(int fault, String text) {
        int got = Given.text(new WalkFences(), 0, text);
        if (got != -10 - fault) {
            Due.fail("\"" + text + "\" answered " + got + ", its FAULT is " + fault);
        }
    }

    /** What a TEXT of GRAZE gives with a, p, k. */
    private static int gives(String text, int a, int p, int k) {
        WalkFences x = new WalkFences();
        Due.is(Given.text(x, 0, text), 1);
        return x.law(0, a, p, k);
    }

    private static String times(String part, int n) {
        StringBuilder all = new StringBuilder();
        for (int i = 0; i < n; i++) {
            all.append(part);
        }
        return all.toString();
    }

    private static void tape() {
        String sentence = "TEXTS are read from THE TAPE (bytes, at most 60): T: A { | A }.";
        Sentence.holds("Terms 2", sentence, "a TEXT of one byte, and one of 60", () -> {
            Due.is(gives("7", 0, 0, 0), 7);
            WalkFences x = new WalkFences();
            Given.tape(x, "10" + times("+1", 29));
            Due.is(x.count(5), 60);
            Due.is(x.feed('1', 1), Due.FULL);
            Due.is(x.text(0), 1);
            Due.is(x.law(0, 0, 0, 0), 39);
        });
        Sentence.holds("Terms 2", sentence, "one A, as many as go on THE TAPE, none to a side of |", () -> {
            areTexts("a", "a|p", times("a|", 29) + "a");
            faultIs(0, "|a");
            faultIs(2, "a|");
            faultIs(2, "a||p");
        });
    }

    private static void joins() {
        Sentence.holds("Terms 2", "A: B { & B }.", "one B, as many as go on THE TAPE, none to a side of &", () -> {
            areTexts("a", "a&p", times("a&", 29) + "a");
            faultIs(0, "&a");
            faultIs(2, "a&");
            faultIs(2, "a&&p");
            faultIs(2, "a&|p");
        });
        Sentence.holds("Terms 2", "B: S, or S < S, S = S, S > S.", "no sign, one, and not two", () -> {
            areTexts("a", "a<p", "a=p", "a>p", "a<p&a=p|a>p", "(a<p)<k", "a=(p=k)");
            faultIs(0, "<a");
            faultIs(2, "a=");
            for (String second : new String[] {"<", "=", ">"}) {
                faultIs(3, "a<p" + second + "k");
                faultIs(3, "a=p" + second + "k");
                faultIs(3, "a>p" + second + "k");
                faultIs(2, "a>" + second + "p");
            }
            faultIs(7, "(a=p)=k=p");
        });
        Sentence.holds("Terms 2", "S: P { + P, - P }.", "one P, as many as go on THE TAPE, from the left, none ahead of - or behind", () -> {
            areTexts("a", times("a-", 29) + "a");
            Due.is(gives("9-3-2-1", 0, 0, 0), 3);
            Due.is(gives("9-3+2-1", 0, 0, 0), 7);
            faultIs(0, "-1");
            faultIs(0, "+1");
            faultIs(2, "a-");
            faultIs(2, "a--1");
            faultIs(2, "a+-1");
        });
        Sentence.holds("Terms 2", "P: Q { * Q, / Q, % Q }.", "one Q, as many as go on THE TAPE, from the left, none to a side", () -> {
            areTexts("a", times("a%", 29) + "a");
            Due.is(gives("100/7*7%9", 0, 0, 0), 8);
            Due.is(gives("100%7*3/2", 0, 0, 0), 3);
            faultIs(0, "*a");
            faultIs(0, "/a");
            faultIs(0, "%a");
            faultIs(2, "a*");
            faultIs(2, "a*/p");
            faultIs(2, "a%%p");
        });
        Sentence.holds("Terms 2", "T: A { | A }. A: B { & B }. B: S, or S < S, S = S, S > S. S: P { + P, - P }. P: Q { * Q, / Q, % Q }.",
                "what binds closest is worked out first", () -> {
            Due.is(gives("1|0&0", 0, 0, 0), 1);
            Due.is(gives("0&0|1", 0, 0, 0), 1);
            Due.is(gives("2&1<2", 0, 0, 0), 1);
            Due.is(gives("1+1=2", 0, 0, 0), 1);
            Due.is(gives("9-2*3", 0, 0, 0), 3);
            Due.is(gives("9-7%4", 0, 0, 0), 6);
        });
    }

    private static void operands() {
        String sentence = "Q: a NUMBER of 1 to 4 digits, a NAME, ! Q, ( T ).";
        Sentence.holds("Terms 2", sentence, "a NUMBER of 1 digit and of 4", () -> {
            Due.is(gives("0", 1, 1, 1), 0);
            Due.is(gives("9", 1, 1, 1), 9);
            Due.is(gives("9999-9000", 1, 1, 1), 999);
            Due.is(gives("0007", 1, 1, 1), 7);
            Due.is(gives("0000", 1, 1, 1), 0);
        });
        Sentence.holds("Terms 2", sentence, "a NUMBER of 5 digits, and one that goes on as something else", () -> {
            faultIs(4, "12345");
            faultIs(4, "00000");
            faultIs(6, "a+99999");
            faultIs(1, "1a");
            faultIs(4, "1234(");
            faultIs(1, "1.5");
        });
        Sentence.holds("Terms 2", sentence, "a NAME is one byte, and one of its USE", () -> {
            areTexts("a", "p", "k");
            faultIs(1, "aa");
            faultIs(1, "a1");
            faultIs(0, "A");
            faultIs(0, "c");
            faultIs(0, "b");
            faultIs(0, "d");
            for (String name : new String[] {"c", "b", "d"}) {
                Due.is(Given.text(new WalkFences(), 1, name), 1);
            }
            for (String name : new String[] {"a", "p", "k"}) {
                Due.is(Given.text(new WalkFences(), 1, name), -10);
            }
        });
        Sentence.holds("Terms 2", sentence, "! and ( ) with nothing in them, and not closed, and not opened", () -> {
            faultIs(1, "!");
            faultIs(1, "()");
            faultIs(1, "(");
            faultIs(2, "(a");
            faultIs(1, "a)");
            faultIs(3, "(a))");
            faultIs(1, "a(p)");
            faultIs(1, "a!p");
            faultIs(2, "(!)");
            faultIs(2, "(a!)");
            faultIs(1, "!+a");
        });
        Sentence.holds("Terms 2", sentence, "! takes the next Q alone", () -> {
            Due.is(gives("!0+7", 0, 0, 0), 8);
            Due.is(gives("!(0+7)", 0, 0, 0), 0);
            Due.is(gives("!!7*5", 0, 0, 0), 5);
        });
    }

    private static void blanks() {
        Sentence.holds("Terms 2", "No blanks.", "ahead, behind, between, and none but blanks", () -> {
            faultIs(0, " a");
            faultIs(1, "a ");
            faultIs(1, "a +p");
            faultIs(2, "a+ p");
            faultIs(1, "1 2");
            faultIs(1, "( a)");
            faultIs(0, " ");
            faultIs(1, "a\n");
            faultIs(1, "a\t");
        });
    }

    private static void open() {
        String sentence = "At most 5 of ! and ( are open at once.";
        Sentence.holds("Terms 2", sentence, "5 of them, of either and of both", () ->
                areTexts("!!!!!a", "(((((a)))))", "!(!(!a))", "((!(!a)))", "(((((a|p)))))"));
        Sentence.holds("Terms 2", sentence, "the sixth is the FAULT", () -> {
            faultIs(5, "!!!!!!a");
            faultIs(5, "((((((a))))))");
            faultIs(7, "!(!(a+!!p))");
            faultIs(5, "!(!(!(a)))");
            faultIs(5, "(((((!a)))))");
            faultIs(7, "(((((a+(p))))))");
        });
        Sentence.holds("Terms 2", sentence, "one that is closed is not open: ) closes (, its Q closes !", () -> {
            areTexts("(((((a)))))+(((((p)))))", "!!!!!a+!!!!!p", "((((!a+!p))))", "!((((a))))+!((((p))))", "(!!(!a)+(((!p))))");
            faultIs(8, "((((!a+!!p))))");
            faultIs(8, "((((!a*(!p)))))");
        });
    }

    private static void wraps() {
        String sentence = "Ints that wrap; / cut, % the rest that it leaves, both by 0 are 0; | & < = > ! are 1 or 0, what is not 0 being true; "
                + "all is worked out.";
        Sentence.holds("Terms 2", sentence, "+, - and * beyond the most and the least int", () -> {
            Due.is(gives("a+p", MAX, 1, 0), 0);
            Due.is(gives("a+p", MIN, MIN, 0), 0);
            Due.is(gives("a+p", MIN, -MAX, 0), 1);
            Due.is(gives("a+p+k", MAX, MAX, 7), 5);
            Due.is(gives("a-p", MIN, MAX, 0), 1);
            Due.is(gives("a-p", MIN, 1, 0), 999);
            Due.is(gives("a-p", 0, MIN, 0), 0);
            Due.is(gives("a*p", 65536, 65536, 0), 0);
            Due.is(gives("a*p", 65537, 65537, 0), 999);
            Due.is(gives("a*p+k", MAX, MAX, 0), 1);
            Due.is(gives("9999*9999*9999=a", 9999 * 9999 * 9999, 0, 0), 1);
        });
        Sentence.holds("Terms 2", sentence, "/ and % of the least int by -1", () -> {
            Due.is(gives("a/p=a", MIN, -1, 0), 1);
            Due.is(gives("a%p+7", MIN, -1, 0), 7);
        });
        Sentence.holds("Terms 2", sentence, "/ is cut, % leaves a rest of the sign of what it is of", () -> {
            Due.is(gives("a/p+9", -7, 2, 0), 6);
            Due.is(gives("a/p+9", 7, -2, 0), 6);
            Due.is(gives("a/p+9", 1, 2, 0), 9);
            Due.is(gives("a%p+9", -7, 4, 0), 6);
            Due.is(gives("a%p+9", 7, -4, 0), 12);
            Due.is(gives("a%p+9", 8, 4, 0), 9);
        });
    }

    private static void zeroes() {
        String sentence = "/ cut, % the rest that it leaves, both by 0 are 0";
        Sentence.holds("Terms 2", sentence, "/ and % by 0, of any number", () -> {
            for (int a : new int[] {0, 1, -1, MAX, MIN}) {
                Due.is(gives("a/p+7", a, 0, 0), 7);
                Due.is(gives("a%p+7", a, 0, 0), 7);
            }
            Due.is(gives("5/(a-a)+3", 9, 0, 0), 3);
        });
        Sentence.holds("Terms 2", "all is worked out", "what stands behind a side that settles it is read and worked out, too", () -> {
            Due.is(gives("1|1/0", 0, 0, 0), 1);
            Due.is(gives("0&1%0", 0, 0, 0), 0);
            faultIs(4, "1|1/");
            faultIs(2, "0&");
        });
    }

    private static void truths() {
        String sentence = "| & < = > ! are 1 or 0, what is not 0 being true";
        Sentence.holds("Terms 2", sentence, "| and &: of 0, of numbers below 0, of ones without a bit together", () -> {
            Due.is(gives("a|p", 0, 0, 0), 0);
            Due.is(gives("a|p", 0, MIN, 0), 1);
            Due.is(gives("a|p", 6, 1, 0), 1);
            Due.is(gives("a&p", 6, 1, 0), 1);
            Due.is(gives("a&p", -1, MIN, 0), 1);
            Due.is(gives("a&p", 0, 7, 0), 0);
            Due.is(gives("a&p", 7, 0, 0), 0);
        });
        Sentence.holds("Terms 2", sentence, "< = >: of the same, one apart, and as far apart as can be", () -> {
            int[][] pairs = {{5, 5}, {4, 5}, {5, 4}, {MIN, MAX}, {MAX, MIN}};
            for (int i = 0; i < pairs.length; i++) {
                boolean same = i == 0;
                boolean smaller = i == 1 || i == 3;
                Due.is(gives("a<p", pairs[i][0], pairs[i][1], 0), smaller ? 1 : 0);
                Due.is(gives("a=p", pairs[i][0], pairs[i][1], 0), same ? 1 : 0);
                Due.is(gives("a>p", pairs[i][0], pairs[i][1], 0), same || smaller ? 0 : 1);
            }
        });
        Sentence.holds("Terms 2", sentence, "!: of 0, 1, -1, the least int", () -> {
            Due.is(gives("!a", 0, 0, 0), 1);
            for (int a : new int[] {1, -1, 2, MIN}) {
                Due.is(gives("!a", a, 0, 0), 0);
                Due.is(gives("!!a", a, 0, 0), 1);
            }
        });
    }

    private static void faults() {
        String sentence = "FAULT: the place of the first byte with which no TEXT goes on; how many there are, if it ends too early.";
        Sentence.holds("Terms 2", sentence, "the first byte, the last, and THE TAPE of none", () -> {
            faultIs(0, "");
            faultIs(0, ")");
            faultIs(0, "+a");
            faultIs(1, "ax");
            faultIs(59, times("a+", 29) + "a)");
        });
        Sentence.holds("Terms 2", sentence, "it ends too early, behind one byte and behind 60", () -> {
            faultIs(1, "!");
            faultIs(2, "a+");
            faultIs(60, times("a+", 30));
            faultIs(60, "(" + times("a+", 29) + "a");
        });
        Sentence.holds("Terms 2", sentence, "of two the first", () -> {
            faultIs(1, "a)(");
            faultIs(2, "a+)+");
            faultIs(3, "(a+)");
            faultIs(4, "(a+p");
        });
        Sentence.holds("Terms 2", sentence, "the byte 0, and bytes above 127", () -> {
            faultIs(0, "\u0000");
            faultIs(1, "a\u0000");
            faultIs(0, "\u00ff");
            faultIs(1, "a\u00e1");
            // Those that are NAMES or signs but for their highest bit.
            faultIs(0, String.valueOf((char) ('a' + 128)));
            faultIs(1, "a" + (char) ('+' + 128) + "p");
            faultIs(1, "1" + (char) ('1' + 128));
        });
    }

    private static void graze() {
        String sentence = "USES: 0 GRAZE: NAMES a ACRES, p how many POSTS, k KIND; held within 0 .. 999; without a TEXT a+p (held likewise).";
        Sentence.holds("Terms 2", sentence, "held at 0 and 999, by a TEXT", () -> {
            Due.is(gives("a", 0, 0, 0), 0);
            Due.is(gives("a", -1, 0, 0), 0);
            Due.is(gives("a", MIN, 0, 0), 0);
            Due.is(gives("a", 999, 0, 0), 999);
            Due.is(gives("a", 1000, 0, 0), 999);
            Due.is(gives("a", MAX, 0, 0), 999);
        });
        Sentence.holds("Terms 2", sentence, "held at 0 and 999, without a TEXT", () -> {
            WalkFences x = new WalkFences();
            Due.each(0, x.law(0, 1, -1, 7), x.law(0, -1, 0, 7), x.law(0, MIN, 0, 7));
            Due.each(999, x.law(0, 999, 0, -7), x.law(0, 0, 1000, 0), x.law(0, MAX, 0, 0));
            Due.is(x.law(0, 998, 0, 0), 998);
            Due.is(x.law(0, 0, 1, 0), 1);
        });
        Sentence.holds("Terms 2", sentence, "no ACRES and no POSTS, and 8 POSTS of the last KIND", () -> {
            WalkFences x = Given.walking(60, 0, 20, 27, 29, 34, 38, 43, 45, 52);
            x.fence(0, 0);
            Given.text(x, 0, "a*100+p*10+k");
            Due.is(x.fenceIs(0, 6), 586);
            Due.is(x.fenceIs(1, 6), 0);
            x.untell(0);
            Due.is(x.fenceIs(0, 6), 13);
            Due.is(x.fenceIs(1, 6), 0);
        });
    }

    private static void feedUse() {
        String sentence = "1 FEED: NAMES c the CELL, b its BRAND, d the rest of DAWN by 7; held within -9 .. 9; without a TEXT b+1 (held likewise).";
        Sentence.holds("Terms 2", sentence, "held at -9 and 9, by a TEXT", () -> {
            WalkFences x = new WalkFences();
            Given.text(x, 1, "c");
            Due.each(9, x.law(1, 9, 0, 0), x.law(1, 10, 0, 0), x.law(1, MAX, 0, 0));
            Due.each(-9, x.law(1, -9, 0, 0), x.law(1, -10, 0, 0), x.law(1, MIN, 0, 0));
            Due.is(x.law(1, 8, 0, 0), 8);
            Due.is(x.law(1, -8, 0, 0), -8);
        });
        Sentence.holds("Terms 2", sentence, "held at -9 and 9, without a TEXT", () -> {
            WalkFences x = new WalkFences();
            Due.each(9, x.law(1, -7, 8, -7), x.law(1, 0, 9, 0), x.law(1, 0, MAX - 1, 0));
            Due.each(-9, x.law(1, 7, -10, 7), x.law(1, 0, -11, 0), x.law(1, 0, MIN, 0));
            Due.is(x.law(1, 0, 7, 0), 8);
            Due.is(x.law(1, 0, -9, 0), -8);
        });
        Sentence.holds("Terms 2", sentence, "the first CELL and the last, no BRAND and the last one", () -> {
            WalkFences x = Given.cattle(0, 63, 27);
            x.fence(0, 0);
            x.fence(0, 0);
            x.fence(0, 0);
            Given.diamond(x, 60, 0, 27);
            Given.text(x, 1, "(c=0)*2+(c=63)*3+b");
            x.dawns(1);
            Due.is(x.cowIs(0, 1), 1);
            Due.is(x.cowIs(1, 1), 2);
            Due.is(x.cowIs(2, 1), 3);
            x.untell(1);
            x.dawns(1);
            Due.is(x.cowIs(0, 1), 1);
            Due.is(x.cowIs(2, 1), 7);
        });
        Sentence.holds("Terms 2", sentence, "d is 6 at DAWN 6, 0 at 7, 3 at 9999", () -> {
            WalkFences x = Given.cattle(0);
            x.dawns(5);
            Given.text(x, 1, "d");
            x.dawns(1);
            Due.is(x.cowIs(0, 1), 6);
            x.dawns(1);
            Due.is(x.cowIs(0, 1), 6);
            x.dawns(1);
            Due.is(x.cowIs(0, 1), 7);
            x.untell(1);
            Given.dawnIs(x, 9998);
            Given.text(x, 1, "d");
            x.dawns(1);
            Due.is(x.cowIs(0, 1), 7 + 9999 % 7);
        });
    }

    private static void feed() {
        String sentence = "The n lowest bytes (1 .. 8) of a word, the lowest first, come to THE TAPE: how many there are.";
        // "(1+2)*31", the lowest byte first.
        long word = 0x31332A29322B3128L;
        Sentence.holds("promise 15", sentence, "1 byte: the lowest", () -> {
            WalkFences x = new WalkFences();
            Due.is(x.feed(word >>> 56, 1), 1);
            Due.is(x.text(0), 1);
            Due.is(x.law(0, 0, 0, 0), 1);
            Due.is(x.feed(word, 1), 1);
            Due.is(x.text(0), -11);
        });
        Sentence.holds("promise 15", sentence, "8 bytes: all, the lowest first", () -> {
            WalkFences x = new WalkFences();
            Due.is(x.feed(word, 8), 8);
            Due.is(x.text(0), 1);
            Due.is(x.law(0, 0, 0, 0), 93);
            Due.is(x.feed(word, 7), 7);
            Due.is(x.feed(word >>> 56, 1), 8);
            Due.is(x.text(0), 1);
            Due.is(x.law(0, 0, 0, 0), 93);
        });
        Sentence.holds("promise 15", sentence, "a word below 0, and 0: bytes like any", () -> {
            WalkFences x = new WalkFences();
            Due.is(x.feed(Long.MIN_VALUE | '7', 8), 8);
            Due.is(x.text(0), -11);
            Due.is(x.feed(Long.MIN_VALUE | '7', 1), 1);
            Due.is(x.text(0), 1);
            Due.is(x.feed(-1, 8), 8);
            Due.is(x.feed(0, 8), 16);
            Due.is(x.text(0), -10);
        });
        Sentence.holds("promise 15", "BEYOND.", "no byte, 9, and further out", () -> {
            WalkFences x = new WalkFences();
            for (int wrong : Given.outside(1, 8)) {
                Due.is(x.feed(word, wrong), Due.BEYOND);
            }
            Due.is(x.count(5), 0);
        });
        Sentence.holds("promise 15", "FULL.", "60 bytes go on THE TAPE, 61 do not, and none of those comes", () -> {
            for (int n = 1; n <= 7; n++) {
                WalkFences x = new WalkFences();
                Given.tape(x, times("a", 60 - n));
                Due.each(Due.FULL, x.feed(word, n + 1), x.feed(word, 8));
                Due.is(x.count(5), 60 - n);
                Due.is(x.feed(word, n), 60);
                Due.each(Due.FULL, x.feed(word, 1), x.feed(word, 8));
                Due.is(x.count(5), 60);
            }
        });
        Sentence.holds("promise 15", "BEYOND. FULL.", "with THE TAPE full BEYOND is asked first", () -> {
            WalkFences x = new WalkFences();
            Given.tape(x, times("a", 60));
            Due.each(Due.BEYOND, x.feed(word, 0), x.feed(word, 9));
        });
    }

    private static void text() {
        String sentence = "THE TAPE, which is empty then, is the TEXT of a USE (0, 1), in place of one ahead: 1.";
        Sentence.holds("promise 16", sentence, "THE TAPE is empty, and takes 60 bytes again", () -> {
            WalkFences x = new WalkFences();
            Given.tape(x, times("1", 4));
            Due.is(x.text(1), 1);
            Due.is(x.count(5), 0);
            Due.is(Given.tape(x, "10" + times("+1", 29)), 60);
            Due.is(x.text(0), 1);
            Due.is(x.count(5), 0);
        });
        Sentence.holds("promise 16", sentence, "in place of a longer one, and of a shorter one, of that USE alone", () -> {
            WalkFences x = new WalkFences();
            Given.text(x, 0, times("1+", 29) + "1");
            Given.text(x, 1, "2");
            Given.text(x, 0, "3");
            Due.is(x.law(0, 0, 0, 0), 3);
            Due.is(x.law(1, 0, 0, 0), 2);
            Given.text(x, 0, "4+5");
            Due.is(x.law(0, 0, 0, 0), 9);
            Given.text(x, 0, "!4");
            Given.text(x, 0, "6");
            Due.is(x.law(0, 0, 0, 0), 6);
        });
        Sentence.holds("promise 16", "BEYOND (THE TAPE stays).", "no such USE", () -> {
            WalkFences x = new WalkFences();
            Given.tape(x, "a*2");
            for (int wrong : Given.outside(0, 1)) {
                Due.is(x.text(wrong), Due.BEYOND);
                Due.is(x.count(5), 3);
            }
            Due.is(x.text(0), 1);
            Due.is(x.law(0, 4, 0, 0), 8);
            for (int wrong : Given.outside(0, 1)) {
                Due.is(x.text(wrong), Due.BEYOND);
            }
            Due.is(x.law(0, 4, 0, 0), 8);
        });
    }

    private static void faulty() {
        String sentence = "-10 less the FAULT (no ERROR; the one ahead stays; THE TAPE is empty, too).";
        Sentence.holds("promise 16", sentence, "the least FAULT, of an empty TAPE, and the most, of a full one", () -> {
            WalkFences x = new WalkFences();
            Due.is(x.text(0), -10);
            Due.is(x.text(1), -10);
            Due.is(Given.text(x, 0, times("a+", 30)), -70);
            Due.is(Given.text(x, 1, times("c+", 30)), -70);
        });
        Sentence.holds("promise 16", sentence, "it is no ERROR", () -> {
            WalkFences x = new WalkFences();
            x.text(0);
            Given.text(x, 1, "(");
            Due.each(0, x.told(1), x.told(2), x.told(3), x.told(4), x.told(5), x.told(6));
        });
        Sentence.holds("promise 16", sentence, "the one ahead stays, and none does if there was none", () -> {
            WalkFences x = new WalkFences();
            Given.text(x, 0, "a*7");
            Due.is(Given.text(x, 0, "a*6+"), -14);
            Due.is(x.law(0, 2, 0, 0), 14);
            Due.is(x.text(0), -10);
            Due.is(x.law(0, 2, 0, 0), 14);
            Due.is(Given.text(x, 1, "9+"), -12);
            Due.is(x.law(1, 0, 3, 0), 4);
            Due.is(x.untell(1), 0);
        });
        Sentence.holds("promise 16", sentence, "THE TAPE is empty, too", () -> {
            WalkFences x = new WalkFences();
            Due.is(Given.text(x, 0, "7+"), -12);
            Due.is(x.count(5), 0);
            Due.is(Given.text(x, 0, "7"), 1);
            Due.is(Given.text(x, 0, times("+", 60)), -10);
            Due.is(x.count(5), 0);
        });
    }

    private static void untell() {
        Sentence.holds("promise 17", "There is no TEXT of a USE any more: 1 if there was, else 0.", "none, one, and again none", () -> {
            WalkFences x = new WalkFences();
            for (int use = 0; use <= 1; use++) {
                Due.is(x.untell(use), 0);
                Given.text(x, use, "0");
                Due.is(x.law(use, 3, 4, 0), 0);
                Due.is(x.untell(use), 1);
                Due.is(x.untell(use), 0);
                Due.is(x.law(use, 3, 4, 0), use == 0 ? 7 : 5);
            }
        });
        Sentence.holds("promise 17", "There is no TEXT of a USE any more: 1 if there was, else 0.", "that of the other USE stays, and THE TAPE", () -> {
            WalkFences x = new WalkFences();
            Given.text(x, 0, "8");
            Given.text(x, 1, "8");
            Given.tape(x, "55");
            x.untell(0);
            Due.is(x.law(1, 0, 0, 0), 8);
            Due.is(x.count(5), 2);
            Due.is(x.untell(1), 1);
        });
        Sentence.holds("promise 17", "BEYOND.", "no such USE", () -> {
            WalkFences x = new WalkFences();
            Given.text(x, 0, "8");
            Given.text(x, 1, "8");
            for (int wrong : Given.outside(0, 1)) {
                Due.is(x.untell(wrong), Due.BEYOND);
            }
            Due.each(8, x.law(0, 0, 0, 0), x.law(1, 0, 0, 0));
        });
    }

    private static void law() {
        String sentence = "What a USE gives with its NAMES in order as a, b, c (any number).";
        Sentence.holds("promise 18", sentence, "NAMES as the least and the most int", () -> {
            WalkFences x = new WalkFences();
            Given.text(x, 0, "(a<0)*100+(p<0)*10+(k<0)");
            Due.is(x.law(0, MIN, MAX, MIN), 101);
            Due.is(x.law(0, MAX, MIN, MAX), 10);
            Given.text(x, 1, "(c<0)*4+(b<0)*2+(d<0)");
            Due.is(x.law(1, MIN, MAX, MIN), 5);
            Due.is(x.law(1, MAX, MIN, MAX), 2);
        });
        Sentence.holds("promise 18", sentence, "numbers that no CELL, BRAND, KIND or FENCE has", () -> {
            WalkFences x = new WalkFences();
            Due.is(x.law(0, 64, 9, 7), 73);
            Due.is(x.law(1, 64, 4, 7), 5);
            Due.is(x.law(1, -1, -2, -1), -1);
            Due.is(x.told(1), 0);
        });
        Sentence.holds("promise 18", "BEYOND.", "no such USE", () -> {
            WalkFences x = new WalkFences();
            for (int wrong : Given.outside(0, 1)) {
                Due.is(x.law(wrong, 0, 0, 0), Due.BEYOND);
            }
        });
    }
}
