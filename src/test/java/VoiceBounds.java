/** Boundary cases of section 4 of Terms and of promises 29 and 30: VOICES, THE TRACE, which SHEETS there are. */
final class VoiceBounds {
    private static final int MIN = Integer.MIN_VALUE;
    private static final int MAX = Integer.MAX_VALUE;
    private static final int SINGS = 0;
    private static final int LEANS = 1;
    private static final int SPROUTS = 2;
    private static final int PARTS = 3;

    private VoiceBounds() {
    }

    static void all() {
        voices();
        fenceBodies();
        northernBodies();
        laggingAndTurnerBodies();
        polarBodies();
        stileAndHedgeBodies();
        whichBody();
        trace();
        whichSheets();
        voice();
        body();
    }

    /** What a VOICE of FENCE k, of this KIND and m, answers. */
    private static int says(int km, int k, int voice, int number) {
        WalkFences x = Given.fences(4);
        x.become(k, km);
        return x.voice(k, voice, number);
    }

    /** THE TRACE has these BODIES, and no more. */
    private static void traceIs(WalkFences x, int... bodies) {
        Due.is(x.count(7), bodies.length);
        for (int i = 0; i < bodies.length; i++) {
            Due.is(x.body(i), bodies[i]);
        }
        Due.is(x.body(bodies.length), Due.NONE);
    }

    private static void voices() {
        String sentence = "VOICES of a FENCE, with a number x (ints that wrap); k is the number, m as told: 0 sings, 1 leans, 2 sprouts, 3 parts.";
        Sentence.holds("Terms 4", sentence, "k 0 and 3, m 0 and 9", () -> {
            Due.is(says(0, 0, SINGS, 5), 5);
            Due.is(says(0, 3, SINGS, 5), 8);
            Due.is(says(0, 0, SPROUTS, 5), 10);
            Due.is(says(9, 0, SPROUTS, 5), 1);
            Due.is(says(9, 3, PARTS, 60), 10);
        });
        Sentence.holds("Terms 4", sentence, "no voice ahead of the first, none behind the last", () -> {
            WalkFences x = Given.fences(1);
            for (int wrong : Given.outside(SINGS, PARTS)) {
                Due.is(x.voice(0, wrong, 5), Due.BEYOND);
            }
        });
    }

    private static void fenceBodies() {
        Sentence.holds("Terms 4", "BODIES: Fence: 10 sings: x + k.", "the most int wraps", () -> {
            Due.is(says(0, 0, SINGS, MAX), MAX);
            Due.is(says(0, 1, SINGS, MAX), MIN);
            Due.is(says(0, 3, SINGS, MIN), MIN + 3);
        });
        Sentence.holds("Terms 4", "11 leans: sings(x) * 2.", "half of the least int, and one beyond the most, wrap", () -> {
            Due.is(says(0, 0, LEANS, 1 << 30), MIN);
            Due.is(says(0, 0, LEANS, MIN), 0);
            Due.is(says(0, 0, LEANS, MAX), -2);
            Due.is(says(0, 1, LEANS, MAX), 0);
        });
        Sentence.holds("Terms 4", "12 sprouts: leans(x) - m.", "the least int wraps", () -> {
            Due.is(says(0, 0, SPROUTS, 1 << 30), MIN);
            Due.is(says(1, 0, SPROUTS, 1 << 30), MAX);
            Due.is(says(9, 0, SPROUTS, 0), -9);
        });
        String parts = "13 parts: x by (m - k), cut (PARTED if that is 0; that is all that voice() answers then).";
        Sentence.holds("Terms 4", parts, "by 1, -1, 9 and -3; the least int by -1 wraps", () -> {
            Due.is(says(1, 0, PARTS, MIN), MIN);
            Due.is(says(0, 1, PARTS, MIN), MIN);
            Due.is(says(0, 1, PARTS, MAX), -MAX);
            Due.is(says(9, 0, PARTS, -17), -1);
            Due.is(says(0, 3, PARTS, 8), -2);
        });
        Sentence.holds("Terms 4", parts, "PARTED where m is k, for each k and any x, of 0 by 0, too", () -> {
            for (int k = 0; k <= 3; k++) {
                Due.each(Due.PARTED, says(k, k, PARTS, 7), says(k, k, PARTS, 0), says(k, k, PARTS, MIN));
                Due.is(says(k + 1, k, PARTS, 7), 7);
            }
        });
        Sentence.holds("Terms 4", parts, "not PARTED: the quotient is 0, or k is 0, or m is", () -> {
            Due.is(says(9, 0, PARTS, 8), 0);
            Due.is(says(9, 0, PARTS, 0), 0);
            Due.is(says(0, 2, PARTS, 1), 0);
        });
        Sentence.holds("Terms 4", parts, "that is all: nothing is added to PARTED, and no BODY begins behind it", () -> {
            for (int km : new int[] {10, 40}) {
                WalkFences x = Given.walking(km, 0);
                Due.is(x.voice(0, PARTS, 7), Due.PARTED);
                traceIs(x, 21, 13);
                Due.is(x.told(6), 1);
            }
        });
    }

    private static void northernBodies() {
        Sentence.holds("Terms 4", "Northern: 20 sings: super.sings(x) - 4.", "the least int wraps", () -> {
            Due.is(says(10, 0, SINGS, MIN), MAX - 3);
            Due.is(says(10, 1, SINGS, MAX), MAX - 3);
            Due.is(says(10, 0, SINGS, 4), 0);
        });
        Sentence.holds("Terms 4", "21 parts: super.parts(x) + leans(1).", "the least int wraps; PARTED as in FENCE", () -> {
            // leans(1) is -6.
            Due.is(says(11, 0, PARTS, MIN), MAX - 5);
            Due.is(says(11, 0, PARTS, MAX), MAX - 6);
            Due.is(says(11, 0, PARTS, 0), -6);
            Due.is(says(11, 1, PARTS, 5), Due.PARTED);
            Due.is(says(10, 0, PARTS, 0), Due.PARTED);
        });
    }

    private static void laggingAndTurnerBodies() {
        Sentence.holds("Terms 4", "Lagging: 30 leans: 0 - super.leans(x).", "of 0, and of the least int, which wraps", () -> {
            Due.is(says(20, 0, LEANS, 0), 0);
            Due.is(says(20, 0, LEANS, 1 << 30), MIN);
            Due.is(says(20, 0, LEANS, MAX), 2);
        });
        Sentence.holds("Terms 4", "Turner: 40 sprouts: super.sprouts(x / 2).", "of 1, -1, and the ends of ints", () -> {
            Due.each(0, says(30, 0, SPROUTS, 1), says(30, 0, SPROUTS, -1), says(30, 0, SPROUTS, 0));
            Due.is(says(30, 0, SPROUTS, -3), -2);
            Due.is(says(30, 0, SPROUTS, MIN), MIN);
            Due.is(says(30, 0, SPROUTS, MAX), MAX - 1);
            Due.is(says(39, 0, SPROUTS, MIN), MIN - 9);
            WalkFences x = Given.walking(30, 0);
            x.voice(0, SPROUTS, 1);
            traceIs(x, 40, 12, 11, 10);
        });
    }

    private static void polarBodies() {
        Sentence.holds("Terms 4", "Polar: 50 sings: super.sings(x) * 3.", "of 0, and of the most int and the least, which wrap", () -> {
            Due.is(says(40, 0, SINGS, 4), 0);
            Due.is(says(40, 0, SINGS, MAX), 2147483633);
            Due.is(says(40, 0, SINGS, MIN), 2147483636);
        });
        Sentence.holds("Terms 4", "51 sprouts: super.sprouts(x) ^ k.", "k 0 changes nothing, k 3 numbers above and below 0", () -> {
            Due.is(says(40, 0, SPROUTS, 0), -24);
            Due.is(says(40, 3, SPROUTS, 0), -6 ^ 3);
            Due.is(says(40, 3, SPROUTS, 2), 6 ^ 3);
            Due.is(says(40, 3, SPROUTS, 1), 3);
        });
    }

    private static void stileAndHedgeBodies() {
        Sentence.holds("Terms 4", "Stile: 60 leans: super.leans(x + 1).", "of -1, and of the most int, which wraps", () -> {
            Due.is(says(50, 0, LEANS, -1), 0);
            Due.is(says(50, 0, LEANS, MAX), 0);
            Due.is(says(50, 1, LEANS, MAX), -2);
        });
        Sentence.holds("Terms 4", "Hedge: 70 sings: 9.", "of any x and k", () ->
                Due.each(9, says(60, 0, SINGS, 0), says(69, 3, SINGS, MAX), says(60, 1, SINGS, MIN)));
        Sentence.holds("Terms 4", "71 leans: super.leans(x) + m.", "m 0 and 9", () -> {
            Due.is(says(60, 3, LEANS, MIN), 18);
            Due.is(says(69, 0, LEANS, MAX), 27);
        });
    }

    private static void whichBody() {
        String sentence = "sings(..) is the BODY of its KIND, or of the next KIND above that has one; "
                + "super.sings(..) that from the KIND above the BODY's on.";
        Sentence.holds("Terms 4", sentence, "neither its KIND nor the next above has one", () -> {
            WalkFences x = Given.walking(52, 0);
            x.voice(0, SINGS, 1);
            traceIs(x, 10);
            x.voice(0, PARTS, 1);
            traceIs(x, 13);
        });
        Sentence.holds("Terms 4", sentence, "the KIND above has none: super goes on to FENCE", () -> {
            WalkFences x = Given.walking(42, 0);
            x.voice(0, SPROUTS, 1);
            traceIs(x, 51, 12, 11, 50, 20, 10);
        });
        Sentence.holds("Terms 4", sentence, "its own BODY again, from a BODY of FENCE", () -> {
            WalkFences x = Given.walking(60, 0);
            x.voice(0, SPROUTS, 1);
            traceIs(x, 12, 71, 11, 70);
            x.become(0, 50);
            x.voice(0, SPROUTS, 1);
            traceIs(x, 12, 60, 30, 11, 10);
        });
    }

    private static void trace() {
        String sentence = "THE TRACE: the numbers of BODIES of the latest voice(), as they began (what stands left is worked out first), the first 30.";
        Sentence.holds("Terms 4", sentence, "none at first", () -> traceIs(new WalkFences()));
        Sentence.holds("Terms 4", sentence, "of the latest alone, be it shorter or longer, however many there were", () -> {
            WalkFences x = Given.walking(43, 0);
            for (int times = 0; times < 40; times++) {
                x.voice(0, SPROUTS, times);
                Due.is(x.count(7), 6);
            }
            x.voice(0, SINGS, 1);
            traceIs(x, 50, 20, 10);
            x.become(0, 0);
            x.voice(0, SINGS, 1);
            traceIs(x, 10);
        });
        Sentence.holds("Terms 4", sentence, "the longest is far from 30: all its BODIES are there", () -> {
            WalkFences x = Given.walking(43, 0);
            Due.is(x.voice(0, PARTS, 9), 3 - 18);
            traceIs(x, 21, 13, 11, 50, 20, 10);
        });
        Sentence.holds("Terms 4", sentence, "what stands left first: parts ahead of leans", () -> {
            WalkFences x = Given.walking(13, 0);
            Due.is(x.voice(0, PARTS, 9), 3 - 6);
            traceIs(x, 21, 13, 11, 20, 10);
        });
        Sentence.holds("Terms 4", sentence, "of one that was PARTED: those that began", () -> {
            WalkFences x = Given.walking(3, 0);
            x.voice(0, SPROUTS, 1);
            x.become(0, 0);
            Due.is(x.voice(0, PARTS, 1), Due.PARTED);
            traceIs(x, 13);
        });
        Sentence.holds("Terms 4", sentence, "one that was BEYOND leaves it, also behind a PARTED one", () -> {
            WalkFences x = Given.walking(0, 0);
            x.voice(0, LEANS, 1);
            Due.each(Due.BEYOND, x.voice(0, 4, 1), x.voice(1, SINGS, 1));
            traceIs(x, 11, 10);
            x.voice(0, PARTS, 1);
            Due.each(Due.BEYOND, x.voice(0, -1, 1), x.voice(-1, SINGS, 1));
            traceIs(x, 13);
        });
    }

    private static void whichSheets() {
        String sentence = "SHEETS 0 .. 3 are rows of 8, 16, 32 bits, at most 24 numbers, or missing (as at first).";
        Sentence.holds("Terms 4", sentence, "missing at first", () -> {
            WalkFences x = Given.fences(1);
            for (int sheet = 0; sheet <= 3; sheet++) {
                Due.each(Due.NONE, x.put(sheet, 0, 0), x.move(sheet, 0, sheet, 0, 0), x.sets(0, sheet), x.judge(sheet), x.fits(sheet, 0));
            }
        });
        Sentence.holds("Terms 4", sentence, "four, and neither -1 nor 4", () -> {
            WalkFences x = Given.fences(1);
            for (int sheet = 0; sheet <= 3; sheet++) {
                Due.is(x.sheet(sheet, 8, 1), 1);
            }
            for (int wrong : Given.outside(0, 3)) {
                Due.each(Due.BEYOND, x.sheet(wrong, 8, 1), x.put(wrong, 0, 0), x.move(wrong, 0, 0, 0, 0), x.move(0, 0, wrong, 0, 0),
                        x.sets(0, wrong), x.judge(wrong), x.fits(wrong, 0));
            }
        });
        Sentence.holds("Terms 4", sentence, "24 numbers of each of the bits, and not 25", () -> {
            WalkFences x = new WalkFences();
            for (int bits = 8; bits <= 32; bits *= 2) {
                Due.is(x.sheet(0, bits, 24), 1);
                Due.is(x.put(0, 23, 1), 1);
                Due.is(x.put(0, 24, 1), Due.BEYOND);
                Due.is(x.sheet(0, bits, 25), Due.BEYOND);
            }
        });
    }

    private static void voice() {
        Sentence.holds("promise 29", "A VOICE of a FENCE: any number.", "the least int and the most, and what looks like an ERROR", () -> {
            WalkFences x = Given.fences(1);
            for (int number : new int[] {MIN, MAX, 0, -1000000000, -1000000001, -1000000006}) {
                Due.is(x.voice(0, SINGS, number), number);
            }
            Due.each(0, x.told(1), x.told(6));
        });
        Sentence.holds("promise 29", "BEYOND.", "no such FENCE", () -> {
            WalkFences x = Given.fences(3);
            for (int wrong : Given.outside(0, 2)) {
                Due.each(Due.BEYOND, x.voice(wrong, SINGS, 0), x.voice(wrong, PARTS, 0));
            }
        });
        Sentence.holds("promise 29", "BEYOND.", "no such VOICE", () -> {
            WalkFences x = Given.fences(1);
            for (int wrong : Given.outside(0, 3)) {
                Due.is(x.voice(0, wrong, 0), Due.BEYOND);
            }
        });
        Sentence.holds("promise 29", "PARTED.", "of each KIND, by m 0 and by m 3", () -> {
            for (int kind = 0; kind <= 6; kind++) {
                Due.each(Due.PARTED, says(10 * kind, 0, PARTS, 5), says(10 * kind + 3, 3, PARTS, 5));
            }
        });
        Sentence.holds("promise 29", "PARTED.", "it is told each time, changes THE TRACE alone, and the next is not PARTED", () -> {
            WalkFences x = Given.walking(10, 3, 9);
            Due.is(x.voice(0, PARTS, 5), Due.PARTED);
            Due.is(x.told(6), 1);
            Due.each(0, x.told(1), x.count(2), x.fenceIs(0, 4));
            Due.is(x.voice(0, SINGS, 5), 1);
            Due.is(x.voice(0, PARTS, 5), Due.PARTED);
            x.become(0, 11);
            Due.is(x.voice(0, PARTS, 5), -1);
            Due.is(x.told(6), 2);
        });
        Sentence.holds("promise 29", "BEYOND. PARTED.", "BEYOND is asked first", () -> {
            WalkFences x = Given.fences(1);
            Due.each(Due.BEYOND, x.voice(1, PARTS, 0), x.voice(0, 4, 0));
            Due.is(x.told(6), 0);
        });
    }

    private static void body() {
        Sentence.holds("promise 30", "THE TRACE's i-th.", "the first and the last", () -> {
            WalkFences x = Given.walking(42, 0);
            x.voice(0, SPROUTS, 0);
            Due.is(x.body(0), 51);
            Due.is(x.body(5), 10);
        });
        Sentence.holds("promise 30", "NONE: there is none such.", "at first, ahead of the first, behind the last", () -> {
            WalkFences x = Given.walking(42, 0);
            Due.is(x.body(0), Due.NONE);
            x.voice(0, SPROUTS, 0);
            for (int wrong : Given.outside(0, 5)) {
                Due.is(x.body(wrong), Due.NONE);
            }
            Due.each(Due.NONE, x.body(29), x.body(30), x.body(31));
            Due.is(x.told(2), 8);
        });
        Sentence.holds("promise 30", "NONE: there is none such.", "that of a longer one ahead", () -> {
            WalkFences x = Given.walking(42, 0);
            x.voice(0, SPROUTS, 0);
            x.voice(0, SINGS, 0);
            Due.is(x.body(2), 10);
            Due.is(x.body(3), Due.NONE);
        });
    }
}
