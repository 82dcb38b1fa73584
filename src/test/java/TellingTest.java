/** Promises 29 to 41: voices, sheets, images, what is told. */
final class TellingTest {
    private static final int MIN = Integer.MIN_VALUE;
    private static final int MAX = Integer.MAX_VALUE;

    private TellingTest() {
    }

    static void all() {
        Due.test("promise 29, voice", TellingTest::voice);
        Due.test("promise 29, voices of all kinds", TellingTest::voices);
        Due.test("promise 29, parted", TellingTest::parted);
        Due.test("promise 29, voices wrap", TellingTest::voicesWrap);
        Due.test("promise 30, body", TellingTest::body);
        Due.test("promise 30, the trace behind BEYOND", TellingTest::traceStays);
        Due.test("promise 30, the trace of a parted voice", TellingTest::traceOfParted);
        Due.test("promise 31, sheet", TellingTest::sheet);
        Due.test("promise 32, put", TellingTest::put);
        Due.test("promise 32, lowest bits", TellingTest::lowestBits);
        Due.test("promise 33, move", TellingTest::move);
        Due.test("promise 33, move is refused", TellingTest::moveRefused);
        Due.test("promise 34, sets", TellingTest::sets);
        Due.test("promise 35, judge", TellingTest::judge);
        Due.test("promise 36, image", TellingTest::image);
        Due.test("promise 37, restore", TellingTest::restore);
        Due.test("promise 38, tell", TellingTest::tell);
        Due.test("promise 39, check", TellingTest::check);
        Due.test("promise 40, count", TellingTest::count);
        Due.test("promise 41, told", TellingTest::told);
    }

    private static void voice() {
        WalkFences x = new WalkFences();
        Due.is(x.voice(0, 0, 0), Due.BEYOND);
        x.fence(7, 0);
        x.fence(7, 0);
        Due.is(x.voice(0, 0, 5), 5);
        Due.is(x.voice(1, 0, 5), 6);
        Due.is(x.voice(1, 1, 5), 12);
        Due.is(x.voice(1, 2, 5), 5);
        Due.is(x.voice(1, 3, 50), 8);
        Due.is(x.voice(1, 3, -50), -8);
        Due.is(x.voice(1, 4, 5), Due.BEYOND);
        Due.is(x.voice(1, -1, 5), Due.BEYOND);
        Due.is(x.voice(2, 0, 5), Due.BEYOND);
        Due.is(x.voice(-1, 0, 5), Due.BEYOND);
    }

    /** The VOICE of FENCE 2 with m 5 answers so, by these BODIES. */
    private static void answers(int kind, int voice, int x, int due, int... bodies) {
        WalkFences it = new WalkFences();
        for (int i = 0; i < 4; i++) {
            it.fence(kind * 10 + (i == 2 ? 5 : 8), 0);
        }
        Due.is(it.voice(2, voice, x), due);
        Due.is(it.count(7), bodies.length);
        for (int i = 0; i < bodies.length; i++) {
            Due.is(it.body(i), bodies[i]);
        }
        Due.is(it.body(bodies.length), Due.NONE);
    }

    private static void voices() {
        // k 2, m 5
        answers(0, 0, 9, 11, 10);
        answers(0, 1, 9, 22, 11, 10);
        answers(0, 2, 9, 17, 12, 11, 10);
        answers(0, 3, 10, 3, 13);
        answers(1, 0, 9, 7, 20, 10);
        answers(1, 1, 9, 14, 11, 20, 10);
        answers(1, 2, 9, 9, 12, 11, 20, 10);
        answers(1, 3, 10, 3 - 2, 21, 13, 11, 20, 10);
        answers(2, 0, 9, 11, 10);
        answers(2, 1, 9, -22, 30, 11, 10);
        answers(2, 2, 9, -27, 12, 30, 11, 10);
        answers(2, 3, -10, -3, 13);
        answers(3, 0, 9, 11, 10);
        answers(3, 1, 9, 22, 11, 10);
        answers(3, 2, 9, 7, 40, 12, 11, 10);
        answers(3, 2, -9, -9, 40, 12, 11, 10);
        answers(3, 3, 9, 3, 13);
        answers(4, 0, 9, 21, 50, 20, 10);
        answers(4, 1, 9, 42, 11, 50, 20, 10);
        answers(4, 2, 9, 37 ^ 2, 51, 12, 11, 50, 20, 10);
        answers(4, 3, 10, 3 - 6, 21, 13, 11, 50, 20, 10);
        answers(5, 0, 9, 11, 10);
        answers(5, 1, 9, -24, 60, 30, 11, 10);
        answers(5, 2, 9, -29, 12, 60, 30, 11, 10);
        answers(5, 3, 8, 2, 13);
        answers(6, 0, 77, 9, 70);
        answers(6, 1, 77, 23, 71, 11, 70);
        answers(6, 2, 77, 18, 12, 71, 11, 70);
        answers(6, 3, 77, 25, 13);
    }

    private static void parted() {
        WalkFences x = new WalkFences();
        for (int kind = 0; kind < 7; kind++) {
            WalkFences y = new WalkFences();
            y.fence(10 * kind, 0);
            y.fence(10 * kind + 1, 0);
            y.fence(10 * kind + 1, 0);
            Due.is(y.voice(0, 3, 8), Due.PARTED);
            Due.is(y.voice(1, 3, 8), Due.PARTED);
            Due.is(y.told(6), 2);
            if (kind != 1 && kind != 4) {
                Due.is(y.voice(2, 3, 8), -8);
                Due.is(y.voice(2, 3, 0), 0);
            }
            Due.is(y.told(6), 2);
            Due.is(y.voice(1, 4, 8), Due.BEYOND);
        }
        // The quotient may be 0: only what one parts by may not.
        x.fence(9, 0);
        Due.is(x.voice(0, 3, 8), 0);
        Due.is(x.told(6), 0);
    }

    private static void voicesWrap() {
        WalkFences x = new WalkFences();
        x.fence(0, 0);
        x.fence(0, 0);
        Due.is(x.voice(1, 0, MAX), MIN);
        Due.is(x.voice(1, 1, MAX), 0);
        Due.is(x.voice(1, 3, MIN), MIN);
        Due.is(x.voice(1, 3, MAX), -MAX);
        // A number that looks like an ERROR is none.
        Due.is(x.voice(1, 0, Due.BEYOND - 1), Due.BEYOND);
        Due.is(x.told(1), 0);
        x.become(1, 40);
        Due.is(x.voice(1, 0, MIN), (MIN + 1 - 4) * 3);
        x.become(1, 59);
        Due.is(x.voice(1, 1, MAX), -((MIN + 1) * 2));
        x.become(1, 39);
        Due.is(x.voice(1, 2, MIN), (MIN / 2 + 1) * 2 - 9);
    }

    private static void body() {
        WalkFences x = new WalkFences();
        Due.is(x.body(0), Due.NONE);
        Due.is(x.body(-1), Due.NONE);
        x.fence(42, 0);
        x.voice(0, 2, 1);
        int[] due = {51, 12, 11, 50, 20, 10};
        Due.is(x.count(7), due.length);
        for (int i = 0; i < due.length; i++) {
            Due.is(x.body(i), due[i]);
        }
        Due.is(x.body(6), Due.NONE);
        Due.is(x.body(30), Due.NONE);
        Due.is(x.body(MAX), Due.NONE);
        Due.is(x.body(MIN), Due.NONE);
        x.voice(0, 0, 1);
        Due.is(x.count(7), 3);
        Due.is(x.body(0), 50);
        Due.is(x.body(3), Due.NONE);
        Due.is(x.told(2), 7);
    }

    private static void traceStays() {
        WalkFences x = new WalkFences();
        x.fence(10, 0);
        x.voice(0, 0, 1);
        Due.is(x.voice(0, 4, 1), Due.BEYOND);
        Due.is(x.voice(1, 0, 1), Due.BEYOND);
        isTrace(x, 20, 10);
        // No BODY of these began, so THE TRACE of a PARTED voice() stays, too.
        Due.is(x.voice(0, 3, 1), Due.PARTED);
        Due.is(x.voice(0, -1, 1), Due.BEYOND);
        Due.is(x.voice(-1, 3, 1), Due.BEYOND);
        isTrace(x, 21, 13);
    }

    private static void isTrace(WalkFences x, int... bodies) {
        Due.is(x.count(7), bodies.length);
        for (int i = 0; i < bodies.length; i++) {
            Due.is(x.body(i), bodies[i]);
        }
        Due.is(x.body(bodies.length), Due.NONE);
    }

    private static void traceOfParted() {
        int[][] due = {{13}, {21, 13}, {13}, {13}, {21, 13}, {13}, {13}};
        for (int kind = 0; kind < due.length; kind++) {
            WalkFences x = new WalkFences();
            x.fence(10 * kind, 0);
            x.fence(10 * kind + 1, 0);
            // As the first voice(), behind a longer one, and of any x.
            Due.is(x.voice(0, 3, 7), Due.PARTED);
            isTrace(x, due[kind]);
            x.voice(1, 2, 7);
            Due.is(x.voice(1, 3, 0), Due.PARTED);
            isTrace(x, due[kind]);
            Due.is(x.told(6), 2);
            // An IMAGE does not keep it, and the next voice() begins anew and is not PARTED.
            x.image();
            x.restore();
            isTrace(x, due[kind]);
            x.become(0, 10 * kind + 4);
            if (kind != 1 && kind != 4) {
                Due.is(x.voice(0, 3, 8), 2);
                isTrace(x, 13);
            }
            x.become(0, 0);
            Due.is(x.voice(0, 1, 8), 16);
            isTrace(x, 11, 10);
            Due.is(x.told(6), 2);
        }
        // Behind a PARTED one, both sides of the sum are worked out again.
        WalkFences y = new WalkFences();
        y.fence(10, 0);
        Due.is(y.voice(0, 3, 8), Due.PARTED);
        y.become(0, 14);
        Due.is(y.voice(0, 3, 8), 2 + (1 - 4) * 2);
        isTrace(y, 21, 13, 11, 20, 10);
    }

    private static void sheet() {
        WalkFences x = new WalkFences();
        Due.is(x.sheet(0, 8, 24), 1);
        Due.is(x.put(0, 23, 5), 1);
        Due.is(x.put(0, 24, 5), Due.BEYOND);
        Due.is(x.sheet(3, 16, 1), 1);
        Due.is(x.sheet(2, 32, 0), 1);
        Due.is(x.put(2, 0, 5), Due.BEYOND);
        int[][] beyond = {{-1, 8, 1}, {4, 8, 1}, {0, 7, 1}, {0, -8, 1}, {0, 64, 1}, {0, 24, 1}, {0, 8, 25},
            {0, 32, MAX}, {4, 8, -1}, {0, 7, -1}, {-1, 0, 0}};
        for (int[] row : beyond) {
            Due.is(x.sheet(row[0], row[1], row[2]), Due.BEYOND);
        }
        Due.is(x.sheet(0, 8, -1), Due.STATE);
        Due.is(x.sheet(0, 32, MIN), Due.STATE);
        Due.is(x.put(0, 23, 5), 1);
        // Its numbers are 0 again, also when it had others.
        x.fence(0, 0);
        Given.sheet(x, 1, 8, 5, 6);
        Due.is(x.sheet(1, 8, 2), 1);
        x.sets(0, 1);
        Due.is(x.land(0, 0), 1);
        Due.is(x.at(0, 1), 0);
        // Missing again, whatever n.
        Due.is(x.sheet(1, 0, -1), 1);
        Due.is(x.put(1, 0, 0), Due.NONE);
        Due.is(x.sheet(0, 0, 25), 1);
        Due.is(x.put(0, 0, 0), Due.NONE);
        Due.is(x.sheet(0, 0, 0), 1);
        Due.is(x.put(3, 0, 0), 1);
    }

    private static void put() {
        WalkFences x = new WalkFences();
        Due.is(x.put(0, 0, 0), Due.NONE);
        Due.is(x.put(0, -1, 0), Due.NONE);
        Due.is(x.put(-1, 0, 0), Due.BEYOND);
        Due.is(x.put(4, 0, 0), Due.BEYOND);
        x.sheet(0, 8, 3);
        Due.is(x.put(0, 0, 9), 1);
        Due.is(x.put(0, 2, 11), 1);
        Due.is(x.put(0, 2, 12), 1);
        Due.is(x.put(0, 3, 9), Due.BEYOND);
        Due.is(x.put(0, -1, 9), Due.BEYOND);
        Due.is(x.put(0, MAX, 9), Due.BEYOND);
        x.fence(0, 0);
        Due.is(x.sets(0, 0), 3);
        Due.is(x.at(0, 0), 9);
        Due.is(x.at(0, 1), 0);
        Due.is(x.at(0, 2), 12);
    }

    /** How many POSTS a number of so many bits gives: 1 if it is 0 to 63 then. */
    private static void isCell(int bits, int v, int cell) {
        WalkFences x = new WalkFences();
        x.fence(0, 0);
        Given.sheet(x, 0, bits, v);
        Due.is(x.sets(0, 0), cell < 0 ? 0 : 1);
        Due.is(x.at(0, 0), cell < 0 ? Due.BEYOND : cell);
    }

    private static void lowestBits() {
        isCell(8, 256, 0);
        isCell(8, 255, -1);
        isCell(8, 256 + 63, 63);
        isCell(8, 64, -1);
        isCell(8, -256 + 5, 5);
        isCell(8, MIN, 0);
        isCell(16, 256, -1);
        isCell(16, 65536 + 7, 7);
        isCell(16, -65536, 0);
        isCell(16, MAX, -1);
        isCell(32, 65536, -1);
        isCell(32, MIN, -1);
        isCell(32, 63, 63);
        // Those with the highest bit are below 0.
        for (int bits = 8; bits <= 32; bits *= 2) {
            WalkFences x = new WalkFences();
            x.cow(0);
            Given.sheet(x, 0, bits, -1);
            Due.is(x.judge(0), 1);
            x.put(0, 0, (int) ((1L << bits) - 1));
            Due.is(x.judge(0), 1);
        }
    }

    private static void isRow(WalkFences x, int sheet, int... numbers) {
        x.sets(0, sheet);
        Due.is(x.fenceIs(0, 3), numbers.length);
        for (int i = 0; i < numbers.length; i++) {
            Due.is(x.at(0, i), numbers[i]);
        }
    }

    private static void move() {
        WalkFences x = new WalkFences();
        x.fence(0, 0);
        Given.sheet(x, 0, 8, 1, 2, 3, 4, 5);
        Given.sheet(x, 1, 8, 11, 12, 13);
        Due.is(x.move(0, 1, 1, 0, 2), 2);
        isRow(x, 1, 2, 3, 13);
        isRow(x, 0, 1, 2, 3, 4, 5);
        Due.is(x.move(1, 2, 0, 4, 1), 1);
        isRow(x, 0, 1, 2, 3, 4, 13);
        Due.is(x.move(0, 0, 0, 1, 4), 4);
        isRow(x, 0, 1, 1, 2, 3, 4);
        Due.is(x.move(0, 2, 0, 0, 3), 3);
        isRow(x, 0, 2, 3, 4, 3, 4);
        Due.is(x.move(0, 5, 1, 3, 0), 0);
        Due.is(x.move(0, 0, 0, 0, 5), 5);
        isRow(x, 0, 2, 3, 4, 3, 4);
    }

    private static void moveRefused() {
        WalkFences x = new WalkFences();
        x.fence(0, 0);
        Given.sheet(x, 0, 8, 1, 2, 3, 4, 5);
        Given.sheet(x, 1, 8, 11, 12, 13);
        Given.sheet(x, 2, 16, 21);
        Due.is(x.move(-1, 0, 0, 0, 1), Due.BEYOND);
        Due.is(x.move(0, 0, 4, 0, 1), Due.BEYOND);
        Due.is(x.move(3, 0, 4, 0, 1), Due.BEYOND);
        Due.is(x.move(3, 0, 0, 0, -1), Due.NONE);
        Due.is(x.move(0, 0, 3, 0, 1), Due.NONE);
        Due.is(x.move(0, 0, 2, 0, -1), Due.KIND);
        Due.is(x.move(2, 0, 0, 0, 1), Due.KIND);
        int[][] beyond = {{-1, 0, 1}, {0, -1, 1}, {0, 0, -1}, {5, 0, 1}, {0, 3, 1}, {0, 0, 4}, {3, 0, 3}, {0, 2, 2},
            {6, 0, 0}, {0, 4, 0}, {MAX, 0, 1}, {0, MAX, MAX}, {1, 1, MAX}, {MIN, MIN, MIN}};
        for (int[] row : beyond) {
            Due.is(x.move(0, row[0], 1, row[1], row[2]), Due.BEYOND);
        }
        isRow(x, 1, 11, 12, 13);
        Due.is(x.told(1), 3 + beyond.length);
        Due.is(x.told(2), 2);
        Due.is(x.told(5), 2);
    }

    private static void sets() {
        WalkFences x = new WalkFences();
        Due.is(x.sets(0, 0), Due.BEYOND);
        x.fence(0, 0);
        x.fence(0, 0);
        x.post(0, 60);
        Due.is(x.sets(-1, 0), Due.BEYOND);
        Due.is(x.sets(2, 0), Due.BEYOND);
        Due.is(x.sets(0, -1), Due.BEYOND);
        Due.is(x.sets(0, 4), Due.BEYOND);
        Due.is(x.sets(0, 0), Due.NONE);
        Due.is(x.fenceIs(0, 3), 1);
        Given.sheet(x, 0, 32, 63, 0, 5, 5, -1, 6);
        Due.is(x.sets(0, 0), 4);
        isRow(x, 0, 63, 0, 5, 5);
        Due.is(x.fenceIs(1, 3), 0);
        Given.sheet(x, 1, 16, 1, 2, 3, 4, 5, 6, 7, 8, 9, 10);
        Due.is(x.sets(1, 1), 8);
        Due.is(x.at(1, 7), 8);
        Given.sheet(x, 1, 16, 64, 2);
        Due.is(x.sets(1, 1), 0);
        Due.is(x.at(1, 0), Due.BEYOND);
        x.sheet(1, 8, 0);
        Due.is(x.sets(0, 1), 0);
        Due.is(x.fenceIs(0, 3), 0);
        // No ERROR was told for what is no CELL.
        Due.is(x.told(1), 6);
    }

    private static void judge() {
        WalkFences x = new WalkFences();
        Due.is(x.judge(0), Due.NONE);
        Due.is(x.judge(-1), Due.BEYOND);
        Due.is(x.judge(4), Due.BEYOND);
        x.cow(0);
        x.cow(10);
        x.cow(50);
        Given.sheet(x, 0, 8, -1, -1, -1, -1);
        Due.is(x.judge(0), 3);
        Given.diamond(x, 60, 0, 50);
        Given.diamond(x, 60, 0, 10);
        Due.is(x.judge(0), 1);
        x.put(0, 1, 1);
        Due.is(x.judge(0), 2);
        x.put(0, 2, 0);
        Due.is(x.judge(0), 3);
        x.put(0, 0, 0);
        Due.is(x.judge(0), 0);
        x.sheet(0, 16, 0);
        Due.is(x.judge(0), 0);
        Given.sheet(x, 0, 16, -1, 1);
        Due.is(x.judge(0), 2);
        Given.sheet(x, 0, 16, -1, 65537);
        Due.is(x.judge(0), 2);
        Given.sheet(x, 0, 32, -1, 65537);
        Due.is(x.judge(0), 1);
    }

    private static void image() {
        WalkFences x = new WalkFences();
        Due.is(x.image(), 1);
        x.dawns(2);
        Due.is(x.image(), 2);
        x.dawns(1);
        Due.is(x.count(2), 3);
        Due.is(x.restore(), 2);
        Due.is(x.image(), 3);
        Due.is(x.restore(), 2);
        Due.is(x.image(), 4);
    }

    private static void restore() {
        WalkFences x = new WalkFences();
        Due.is(x.restore(), Due.NONE);
        Given.diamond(x, 34, 1, 18);
        x.cow(20);
        x.lay(0, 5, 1);
        x.lay(1, 6, 1);
        Given.text(x, 0, "2");
        Given.text(x, 1, "3");
        Given.tape(x, "4");
        x.tell(4);
        x.seed(99);
        x.dawns(2);
        Due.is(x.image(), 1);
        // All that an IMAGE keeps becomes another.
        x.become(0, 60);
        x.turn(0, 3);
        x.cut(0);
        x.post(0, 0);
        x.post(0, 1);
        x.fence(0, 0);
        x.drive(0, 63);
        x.cow(1);
        x.lay(0, 5, 0);
        x.lay(0, 7, 1);
        x.lay(1, 6, 0);
        x.lay(1, 8, 1);
        x.untell(0);
        Given.text(x, 1, "1");
        Given.tape(x, "55");
        x.text(1);
        Given.tape(x, "666");
        x.tell(8);
        x.check();
        x.tell(7);
        x.dawns(5);
        x.loose(1);
        Due.is(x.restore(), 2);
        Due.is(x.count(0), 1);
        Due.is(x.fenceIs(0, 0), 3);
        Due.is(x.fenceIs(0, 1), 4);
        Due.is(x.fenceIs(0, 2), 1);
        Due.is(x.fenceIs(0, 3), 4);
        Due.is(x.fenceIs(0, 4), 4);
        Due.is(x.land(0, 0), Given.bits(12, 19, 21, 28));
        Due.is(x.at(0, 0), 12);
        Due.is(x.at(0, 3), 28);
        Due.is(x.count(1), 1);
        Due.is(x.cowIs(0, 0), 20);
        Due.is(x.cowIs(0, 1), 6);
        Due.is(x.lay(0, 5, 1), 1);
        Due.is(x.lay(1, 6, 1), 1);
        Due.is(x.count(3), 1);
        Due.is(x.count(4), 1);
        Due.is(x.law(0, 0, 0, 0), 2);
        Due.is(x.law(1, 0, 0, 0), 3);
        Due.is(x.count(5), 1);
        Due.is(x.text(0), 1);
        Due.is(x.law(0, 0, 0, 0), 4);
        Due.is(x.count(6), 1);
        Due.is(x.check(), 0);
        Due.is(x.count(8), 99);
        // The IMAGE stays, and what comes later does not change it.
        x.cut(0);
        x.fence(0, 0);
        Due.is(x.restore(), 2);
        Due.is(x.count(0), 1);
        Due.is(x.fenceIs(0, 3), 4);
        Due.is(x.law(0, 0, 0, 0), 2);
        Due.is(x.count(6), 1);
    }

    private static void tell() {
        WalkFences x = new WalkFences();
        for (int i = 1; i <= 24; i++) {
            Due.is(x.tell(i == 3 ? MIN : i), i);
        }
        Due.is(x.tell(0), Due.FULL);
        Due.is(x.count(6), 24);
        Due.is(x.told(4), 1);
        Due.is(x.check(), 1);
        Due.is(x.tell(MAX), 1);
    }

    private static void check() {
        WalkFences x = new WalkFences();
        Due.is(x.check(), 0);
        x.fence(0, 0);
        x.post(0, 9);
        x.fence(0, 0);
        x.fence(0, 0);
        x.post(2, 9);
        x.post(2, 9);
        x.dawns(3);
        x.tell(3);
        x.tell(0);
        x.tell(6);
        Due.is(x.check(), 0);
        Due.is(x.count(6), 0);
        x.tell(3);
        x.tell(0);
        Due.is(x.check(), 0);
        x.tell(3);
        x.tell(1);
        x.tell(7);
        Due.is(x.check(), 2);
        Due.is(x.count(6), 0);
        x.tell(4);
        Due.is(x.check(), 1);
        for (int each : new int[] {3, 0, 6, 0}) {
            x.tell(each);
        }
        Due.is(x.check(), 4);
        Due.is(x.check(), 0);
        // It is looked at when check() is called.
        x.tell(4);
        x.dawns(1);
        Due.is(x.check(), 0);
    }

    private static void count() {
        WalkFences x = new WalkFences();
        x.fence(0, 0);
        x.fence(0, 0);
        for (int i = 0; i < 3; i++) {
            x.cow(0);
        }
        x.dawns(4);
        for (int i = 0; i < 5; i++) {
            x.lay(0, 63 - i, 1);
        }
        for (int i = 0; i < 6; i++) {
            x.lay(1, i, 1);
        }
        Given.tape(x, "seven77");
        for (int i = 0; i < 8; i++) {
            x.tell(i);
        }
        x.voice(0, 2, 0);
        x.seed(-1000000004);
        int[] due = {2, 3, 4, 5, 6, 7, 8, 3, -1000000004};
        for (int what = 0; what < due.length; what++) {
            Due.is(x.count(what), due[what]);
        }
        Due.is(x.told(4), 0);
        Due.is(x.count(-1), Due.BEYOND);
        Due.is(x.count(9), Due.BEYOND);
        Due.is(x.told(1), 2);
    }

    private static void told() {
        WalkFences x = new WalkFences();
        Due.is(x.told(0), Due.BEYOND);
        Due.is(x.told(7), Due.BEYOND);
        Due.is(x.told(MIN), Due.BEYOND);
        Due.is(x.told(1), 3);
        Due.is(x.told(1), 3);
        x.restore();
        x.body(0);
        Due.is(x.told(2), 2);
        x.fence(0, 0);
        x.cut(0);
        Due.is(x.told(3), 1);
        for (int i = 0; i < 7; i++) {
            x.cow(0);
        }
        Due.is(x.told(4), 1);
        x.as(0, 1);
        Due.is(x.told(5), 1);
        x.voice(0, 3, 0);
        Due.is(x.told(6), 1);
        x.land(9, 9);
        Due.is(x.told(1), 4);
        // A FAULT is no ERROR, and what looks like one is none.
        x.text(0);
        x.seed(-1000000001);
        x.seed(1);
        x.count(8);
        Due.is(x.told(1), 4);
        Due.is(x.told(2) + x.told(3) + x.told(4) + x.told(5) + x.told(6), 6);
    }
}
