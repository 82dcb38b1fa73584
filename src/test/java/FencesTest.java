/** Promises 1 to 14: a new object, fences, cattle. */
final class FencesTest {
    private FencesTest() {
    }

    static void all() {
        Due.test("promise 1, a new object", FencesTest::newObject);
        Due.test("promise 2, fence", FencesTest::fence);
        Due.test("promise 2, fence begins as at first", FencesTest::fenceBegins);
        Due.test("promise 3, post", FencesTest::post);
        Due.test("promise 4, fenceIs", FencesTest::fenceIs);
        Due.test("promise 4, acres", FencesTest::acres);
        Due.test("promise 5, at", FencesTest::at);
        Due.test("promise 6, heads", FencesTest::heads);
        Due.test("promise 6, heads by dawns", FencesTest::headsByDawns);
        Due.test("promise 7, become", FencesTest::become);
        Due.test("promise 8, as", FencesTest::as);
        Due.test("promise 9, turn", FencesTest::turn);
        Due.test("promise 10, cut", FencesTest::cut);
        Due.test("promise 11, lay", FencesTest::lay);
        Due.test("promise 12, cow", FencesTest::cow);
        Due.test("promise 13, cowIs", FencesTest::cowIs);
        Due.test("promise 14, drive", FencesTest::drive);
    }

    private static void newObject() {
        WalkFences x = new WalkFences();
        for (int what = 0; what < 8; what++) {
            Due.is(x.count(what), 0);
        }
        Due.is(x.count(8), 1);
        for (int k = 1; k <= 6; k++) {
            Due.is(x.told(k), 0);
        }
        Due.is(x.fenceIs(0, 0), Due.BEYOND);
        Due.is(x.cowIs(0, 0), Due.BEYOND);
        Due.is(x.untell(0), 0);
        Due.is(x.untell(1), 0);
        for (int sheet = 0; sheet < 4; sheet++) {
            Due.is(x.put(sheet, 0, 0), Due.NONE);
        }
        Due.is(x.restore(), Due.NONE);
        Due.is(x.body(0), Due.NONE);
        Due.is(x.check(), 0);
        for (int cell = 0; cell < 64; cell++) {
            Due.is(x.lay(0, cell, 0), 0);
            Due.is(x.lay(1, cell, 0), 0);
        }
        // One object has nothing of another.
        x.fence(0, 0);
        Due.is(new WalkFences().count(0), 0);
    }

    private static void fence() {
        WalkFences x = new WalkFences();
        Due.is(x.fence(-1, 0), Due.BEYOND);
        Due.is(x.fence(70, 0), Due.BEYOND);
        Due.is(x.fence(0, -1), Due.BEYOND);
        Due.is(x.fence(0, 4), Due.BEYOND);
        Due.is(x.fence(Integer.MIN_VALUE, 0), Due.BEYOND);
        Due.is(x.fence(0, Integer.MAX_VALUE), Due.BEYOND);
        Due.is(x.count(0), 0);
        Due.is(x.fence(0, 0), 0);
        Due.is(x.fence(69, 3), 1);
        Due.is(x.fence(37, 1), 2);
        Due.is(x.fence(10, 2), 3);
        Due.is(x.fence(0, 0), Due.FULL);
        Due.is(x.fence(70, 0), Due.BEYOND);
        Due.is(x.count(0), 4);
        Due.is(x.told(1), 7);
        Due.is(x.told(4), 1);
        Due.is(x.fenceIs(1, 0), 6);
        Due.is(x.fenceIs(1, 1), 9);
        Due.is(x.fenceIs(1, 2), 3);
        Due.is(x.fenceIs(2, 0), 3);
        Due.is(x.fenceIs(2, 1), 7);
        Due.is(x.fenceIs(2, 2), 1);
    }

    private static void fenceBegins() {
        WalkFences x = new WalkFences();
        x.image();
        x.fence(0, 0);
        x.post(0, 9);
        x.dawns(3);
        Due.is(x.fenceIs(0, 4), 3);
        x.restore();
        Due.is(x.fence(5, 2), 0);
        Due.is(x.fenceIs(0, 3), 0);
        Due.is(x.fenceIs(0, 4), 0);
    }

    private static void post() {
        WalkFences x = new WalkFences();
        Due.is(x.post(0, 0), Due.BEYOND);
        x.fence(0, 0);
        x.fence(0, 0);
        Due.is(x.post(-1, 0), Due.BEYOND);
        Due.is(x.post(2, 0), Due.BEYOND);
        Due.is(x.post(0, -1), Due.BEYOND);
        Due.is(x.post(0, 64), Due.BEYOND);
        for (int i = 1; i <= 8; i++) {
            Due.is(x.post(0, i == 1 ? 63 : 0), i);
        }
        Due.is(x.post(0, 5), Due.FULL);
        Due.is(x.post(0, 64), Due.BEYOND);
        Due.is(x.fenceIs(0, 3), 8);
        Due.is(x.fenceIs(1, 3), 0);
        Due.is(x.at(0, 0), 63);
        Due.is(x.at(0, 7), 0);
    }

    private static void fenceIs() {
        WalkFences x = new WalkFences();
        Due.is(x.fenceIs(0, 0), Due.BEYOND);
        Given.ring(x, 24, 3, 36);
        Due.is(x.fenceIs(0, 0), 2);
        Due.is(x.fenceIs(0, 1), 4);
        Due.is(x.fenceIs(0, 2), 3);
        Due.is(x.fenceIs(0, 3), 8);
        Due.is(x.fenceIs(0, 4), 0);
        Due.is(x.fenceIs(0, 5), 1);
        Due.is(x.fenceIs(0, 6), 9);
        x.dawns(2);
        Due.is(x.fenceIs(0, 4), 18);
        Given.text(x, 0, "a*100+p*10+k");
        Due.is(x.fenceIs(0, 6), 182);
        Due.is(x.fenceIs(0, -1), Due.BEYOND);
        Due.is(x.fenceIs(0, 7), Due.BEYOND);
        Due.is(x.fenceIs(-1, 0), Due.BEYOND);
        Due.is(x.fenceIs(1, 0), Due.BEYOND);
        Due.is(x.told(1), 5);
    }

    private static void acres() {
        WalkFences x = new WalkFences();
        Given.diamond(x, 0, 0, 9);
        Due.is(x.fenceIs(0, 5), 1);
        // A corner of the rim fenced off is not INSIDE: one begins on the rim there.
        x.fence(0, 0);
        x.post(1, 1);
        x.post(1, 8);
        Due.is(x.fenceIs(1, 5), 0);
        // POSTS on the rim are not gone through.
        x.fence(0, 0);
        for (int cell : new int[] {1, 2, 8, 11, 17, 18}) {
            x.post(2, cell);
        }
        Due.is(x.fenceIs(2, 5), 2);
        Due.is(x.land(2, 1), Given.bits(9, 10));
        // One does not go round the rows' ends: 15 and 16 are not beside one another.
        x.fence(0, 0);
        for (int cell : new int[] {6, 13, 22, 15}) {
            x.post(3, cell);
        }
        Due.is(x.land(3, 1), Given.bits(14));
    }

    private static void at() {
        WalkFences x = new WalkFences();
        Due.is(x.at(0, 0), Due.BEYOND);
        x.fence(0, 1);
        Due.is(x.at(0, 0), Due.BEYOND);
        x.post(0, 7);
        x.post(0, 40);
        Due.is(x.at(0, 0), 7);
        Due.is(x.at(0, 1), 40);
        Due.is(x.at(0, 2), Due.BEYOND);
        Due.is(x.at(0, -1), Due.BEYOND);
        Due.is(x.at(1, 0), Due.BEYOND);
        Due.is(x.at(-1, 0), Due.BEYOND);
        x.dawns(1);
        Due.is(x.at(0, 0), 7);
        Due.is(x.at(0, 1), 41);
    }

    private static void heads() {
        WalkFences x = new WalkFences();
        Due.is(x.heads(0, 0), Due.BEYOND);
        x.fence(0, 3);
        Due.is(x.heads(0, 0), Due.BEYOND);
        x.post(0, 0);
        x.post(0, 0);
        Due.is(x.heads(0, 0), 3);
        Due.is(x.heads(0, 1), 3);
        Due.is(x.heads(0, 2), Due.BEYOND);
        Due.is(x.heads(0, -1), Due.BEYOND);
        Due.is(x.heads(-1, 0), Due.BEYOND);
        Due.is(x.heads(1, 0), Due.BEYOND);
        x.become(0, 58);
        Due.is(x.heads(0, 0), -1);
        Due.is(x.heads(0, 1), 3);
        x.become(0, 68);
        Due.is(x.heads(0, 1), -1);
        x.become(0, 69);
        Due.is(x.heads(0, 1), 3);
    }

    /** What POSTS 0 and 1 of a FENCE with HEADING 2 HEAD at, DAWN after DAWN from 0. */
    private static void headsAre(int km, int[] post0, int[] post1) {
        WalkFences x = new WalkFences();
        x.fence(km, 2);
        x.post(0, 0);
        x.post(0, 1);
        for (int dawn = 0; dawn < post0.length; dawn++) {
            Due.is(x.heads(0, 0), post0[dawn]);
            Due.is(x.heads(0, 1), post1[dawn]);
            x.dawns(1);
        }
    }

    private static void headsAre(int km, int... posts) {
        headsAre(km, posts, posts);
    }

    private static void headsByDawns() {
        headsAre(0, 2, 2, 2, 2, 2);
        headsAre(15, 2, 2, 2, 2, 2);
        headsAre(23, 2, -1, 2, -1, 2, -1);
        headsAre(30, 2, 3, 0, 1, 2, 3);
        headsAre(31, 2, 2, 3, 3, 0, 0, 1, 1, 2);
        headsAre(39, 2, 2, 2, 2, 2, 2, 2, 2, 2, 2, 3, 3);
        headsAre(40, 2, 2, 0, 0, 2, 2, 0, 0, 2);
        headsAre(51, new int[] {-1, -1, -1, -1}, new int[] {2, -1, 2, -1});
        headsAre(68, -1, -1, -1);
        headsAre(69, 2, 2, 2);
        WalkFences x = new WalkFences();
        for (int heading = 0; heading < 4; heading++) {
            x.fence(40, heading);
            x.post(heading, 20);
        }
        x.dawns(2);
        for (int heading = 0; heading < 4; heading++) {
            Due.is(x.heads(heading, 0), new int[] {2, 3, 0, 1}[heading]);
        }
    }

    private static void become() {
        WalkFences x = new WalkFences();
        Due.is(x.become(0, 0), Due.BEYOND);
        x.fence(37, 1);
        x.post(0, 30);
        Due.is(x.become(0, 52), 3);
        Due.is(x.fenceIs(0, 0), 5);
        Due.is(x.fenceIs(0, 1), 2);
        Due.is(x.fenceIs(0, 2), 1);
        Due.is(x.fenceIs(0, 3), 1);
        Due.is(x.become(0, 69), 5);
        Due.is(x.become(0, 0), 6);
        Due.is(x.become(0, -1), Due.BEYOND);
        Due.is(x.become(0, 70), Due.BEYOND);
        Due.is(x.become(1, 0), Due.BEYOND);
        Due.is(x.become(-1, 0), Due.BEYOND);
        Due.is(x.fenceIs(0, 0), 0);
        Due.is(x.fenceIs(0, 1), 0);
    }

    private static void as() {
        // For each KIND, those that it is: itself and all above.
        int[][] is = {{0}, {0, 1}, {0, 2}, {0, 3}, {0, 1, 4}, {0, 2, 5}, {0, 6}};
        WalkFences x = new WalkFences();
        Due.is(x.as(0, 0), Due.BEYOND);
        x.fence(0, 0);
        int refused = 0;
        for (int kind = 0; kind < 7; kind++) {
            x.become(0, kind * 10 + kind + 2);
            for (int asked = 0; asked < 7; asked++) {
                boolean among = false;
                for (int each : is[kind]) {
                    among |= each == asked;
                }
                Due.is(x.as(0, asked), among ? kind + 2 : Due.KIND);
                refused += among ? 0 : 1;
            }
        }
        Due.is(x.told(5), refused);
        Due.is(x.as(0, -1), Due.BEYOND);
        Due.is(x.as(0, 7), Due.BEYOND);
        Due.is(x.as(1, 0), Due.BEYOND);
        Due.is(x.as(-1, 0), Due.BEYOND);
    }

    private static void turn() {
        WalkFences x = new WalkFences();
        Due.is(x.turn(0, 0), Due.BEYOND);
        x.fence(0, 1);
        Due.is(x.turn(0, 3), 1);
        Due.is(x.turn(0, 0), 3);
        Due.is(x.turn(0, 4), Due.BEYOND);
        Due.is(x.turn(0, -1), Due.BEYOND);
        Due.is(x.turn(1, 0), Due.BEYOND);
        Due.is(x.turn(-1, 0), Due.BEYOND);
        Due.is(x.fenceIs(0, 2), 0);
        // HEADING is turned, not where a TURNER HEADS now.
        x.become(0, 30);
        x.dawns(1);
        Due.is(x.turn(0, 2), 0);
        Due.is(x.fenceIs(0, 2), 2);
    }

    private static void cut() {
        WalkFences x = new WalkFences();
        Due.is(x.cut(0), Due.BEYOND);
        x.fence(0, 0);
        Due.is(x.cut(0), Due.STATE);
        Due.is(x.cut(-1), Due.BEYOND);
        Due.is(x.cut(1), Due.BEYOND);
        x.post(0, 11);
        x.post(0, 12);
        Due.is(x.cut(0), 1);
        Due.is(x.at(0, 0), 11);
        Due.is(x.at(0, 1), Due.BEYOND);
        Due.is(x.cut(0), 0);
        Due.is(x.cut(0), Due.STATE);
        Due.is(x.land(0, 0), 0);
        Due.is(x.told(3), 2);
    }

    private static void lay() {
        WalkFences x = new WalkFences();
        Due.is(x.lay(0, 5, 1), 0);
        Due.is(x.lay(0, 5, 1), 1);
        Due.is(x.lay(1, 5, 0), 0);
        Due.is(x.lay(1, 63, 1), 0);
        Due.is(x.lay(1, 0, 1), 0);
        Due.is(x.count(3), 1);
        Due.is(x.count(4), 2);
        Due.is(x.lay(0, 5, 0), 1);
        Due.is(x.lay(0, 5, 0), 0);
        Due.is(x.lay(1, 63, 0), 1);
        Due.is(x.count(3), 0);
        Due.is(x.count(4), 1);
        int[][] wrong = {{-1, 0, 0}, {2, 0, 0}, {0, -1, 1}, {0, 64, 1}, {1, 0, -1}, {1, 0, 2}};
        for (int[] row : wrong) {
            Due.is(x.lay(row[0], row[1], row[2]), Due.BEYOND);
        }
        Due.is(x.count(4), 1);
        // SALT holds all, WATER those that do not go OVER; each may start from them.
        for (int i = 0; i < 4; i++) {
            x.fence(new int[] {0, 10, 40, 20}[i], 1);
            x.post(i, 8 * i);
            x.post(i, 8 * i + 32);
            x.lay(0, 8 * i + 1, 1);
            x.lay(1, 8 * i + 33, 1);
            x.lay(1, 8 * i + 32, 1);
        }
        x.dawns(1);
        for (int i = 0; i < 4; i++) {
            Due.is(x.at(i, 0), 8 * i);
            Due.is(x.at(i, 1), 8 * i + 32 + (i == 0 || i == 3 ? 1 : 0));
        }
    }

    private static void cow() {
        WalkFences x = new WalkFences();
        Due.is(x.cow(-1), Due.BEYOND);
        Due.is(x.cow(64), Due.BEYOND);
        for (int i = 0; i < 6; i++) {
            Due.is(x.cow(i == 0 ? 63 : 0), i);
        }
        Due.is(x.cow(3), Due.FULL);
        Due.is(x.cow(64), Due.BEYOND);
        Due.is(x.count(1), 6);
        Due.is(x.cowIs(0, 0), 63);
        Due.is(x.cowIs(5, 0), 0);
        // One that takes the place of one that an IMAGE did not have is not FAT.
        WalkFences y = new WalkFences();
        Given.text(y, 1, "7");
        y.image();
        y.cow(3);
        y.dawns(1);
        Due.is(y.cowIs(0, 1), 7);
        y.restore();
        Due.is(y.cow(4), 0);
        Due.is(y.cowIs(0, 1), 0);
    }

    private static void cowIs() {
        WalkFences x = new WalkFences();
        Due.is(x.cowIs(0, 0), Due.BEYOND);
        x.cow(18);
        x.cow(45);
        Due.is(x.cowIs(0, 0), 18);
        Due.is(x.cowIs(0, 1), 0);
        Due.is(x.cowIs(0, 2), -1);
        Given.diamond(x, 60, 0, 45);
        Given.ring(x, 60, 0, 18);
        Given.diamond(x, 60, 0, 18);
        Due.is(x.cowIs(0, 2), 1);
        Due.is(x.cowIs(1, 2), 0);
        x.dawns(2);
        Due.is(x.cowIs(0, 1), 4);
        Due.is(x.cowIs(1, 1), 2);
        x.lay(0, 0, 1);
        x.cut(1);
        Due.is(x.cowIs(0, 2), 1);
        x.turn(1, 0);
        x.cut(1);
        Due.is(x.cowIs(0, 2), 2);
        Due.is(x.cowIs(0, -1), Due.BEYOND);
        Due.is(x.cowIs(0, 3), Due.BEYOND);
        Due.is(x.cowIs(-1, 0), Due.BEYOND);
        Due.is(x.cowIs(2, 0), Due.BEYOND);
    }

    private static void drive() {
        WalkFences x = new WalkFences();
        Due.is(x.drive(0, 0), Due.BEYOND);
        x.cow(9);
        Given.text(x, 1, "5");
        x.dawns(1);
        Due.is(x.drive(0, 63), 9);
        Due.is(x.drive(0, 0), 63);
        Due.is(x.drive(0, 64), Due.BEYOND);
        Due.is(x.drive(0, -1), Due.BEYOND);
        Due.is(x.drive(1, 0), Due.BEYOND);
        Due.is(x.drive(-1, 0), Due.BEYOND);
        Due.is(x.cowIs(0, 0), 0);
        Due.is(x.cowIs(0, 1), 5);
    }
}
