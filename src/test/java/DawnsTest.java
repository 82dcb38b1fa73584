/** Promises 19 to 21: dawns, dawns by draws, seeds. */
final class DawnsTest {
    private DawnsTest() {
    }

    static void all() {
        Due.test("promise 19, dawns", DawnsTest::dawns);
        Due.test("promise 19, posts move", DawnsTest::postsMove);
        Due.test("promise 19, posts stay at the rim", DawnsTest::rim);
        Due.test("promise 19, rich", DawnsTest::rich);
        Due.test("promise 19, rich is held", DawnsTest::richIsHeld);
        Due.test("promise 19, fat", DawnsTest::fat);
        Due.test("promise 19, up to DAWN 9999", DawnsTest::lastDawns);
        Due.test("promise 20, loose", DawnsTest::loose);
        Due.test("promise 20, loose up to DAWN 9999", DawnsTest::lastLoose);
        Due.test("promise 20, loose with cattle", DawnsTest::looseCattle);
        Due.test("promise 20, loose at the corners", DawnsTest::looseCorners);
        Due.test("promise 20, loose brings dawns", DawnsTest::looseDawns);
        Due.test("promise 21, seed", DawnsTest::seed);
    }

    private static void dawns() {
        WalkFences x = new WalkFences();
        Due.is(x.dawns(0), Due.BEYOND);
        Due.is(x.dawns(61), Due.BEYOND);
        Due.is(x.dawns(-1), Due.BEYOND);
        Due.is(x.dawns(1), 1);
        Due.is(x.dawns(60), 61);
        Due.is(x.count(2), 61);
        Due.is(x.told(1), 3);
    }

    private static void postsMove() {
        WalkFences x = new WalkFences();
        for (int i = 0; i < 4; i++) {
            x.fence(new int[] {30, 40, 20, 50}[i], i);
            x.post(i, 27);
            x.post(i, 27);
        }
        // Each HEADS by the DAWN ahead of the move.
        int[][] after = {{19, 28, 35, 27}, {20, 29, 35, 27}, {28, 28, 43, 27}, {27, 27, 43, 27}, {19, 28, 51, 27}};
        int[] stile = {26, 26, 25, 25, 24};
        for (int dawn = 0; dawn < 5; dawn++) {
            x.dawns(1);
            for (int i = 0; i < 4; i++) {
                Due.is(x.at(i, 0), after[dawn][i]);
            }
            Due.is(x.at(3, 1), stile[dawn]);
        }
        // SALT holds a POST that is behind another, too, and POSTS do not hold one another.
        WalkFences y = new WalkFences();
        y.fence(0, 1);
        y.post(0, 1);
        y.post(0, 2);
        y.post(0, 3);
        y.lay(0, 4, 1);
        y.dawns(1);
        Due.is(y.land(0, 0), Given.bits(2, 3));
        y.dawns(5);
        Due.is(y.land(0, 0), Given.bits(3));
        y.lay(0, 4, 0);
        y.lay(0, 3, 1);
        y.dawns(1);
        Due.is(y.land(0, 0), Given.bits(4));
    }

    private static void rim() {
        corner(0, 8, 0);
        corner(3, 1, 0);
        corner(0, 15, 7);
        corner(1, 6, 7);
        corner(2, 48, 56);
        corner(3, 57, 56);
        corner(1, 62, 63);
        corner(2, 55, 63);
        WalkFences x = new WalkFences();
        int[] last = {2, 23, 58, 16};
        int[] ahead = {10, 22, 50, 17};
        for (int way = 0; way < 4; way++) {
            x.fence(0, way);
            x.post(way, ahead[way]);
        }
        for (int dawn = 0; dawn < 3; dawn++) {
            x.dawns(1);
            for (int way = 0; way < 4; way++) {
                Due.is(x.at(way, 0), last[way]);
            }
        }
    }

    private static void corner(int way, int from, int to) {
        WalkFences x = new WalkFences();
        x.fence(0, way);
        x.post(0, from);
        x.dawns(1);
        Due.is(x.at(0, 0), to);
        x.dawns(1);
        Due.is(x.at(0, 0), to);
    }

    private static void rich() {
        WalkFences x = new WalkFences();
        // GRAZE is that of the POSTS moved: the one held back opens the ring.
        Given.ring(x, 0, 1, 27);
        x.lay(0, 20, 1);
        Given.ring(x, 60, 1, 18);
        x.dawns(1);
        Due.is(x.fenceIs(0, 4), 8);
        Due.is(x.fenceIs(1, 4), 9);
        x.dawns(2);
        Due.is(x.fenceIs(1, 4), 27);
        // Each by its own ACRES, POSTS, KIND.
        Given.text(x, 0, "a*100+p*10+k");
        x.cut(1);
        x.dawns(1);
        Due.is(x.fenceIs(1, 4), 27 + 100 + 70 + 6);
        // What is laid, cut or turned makes none less RICH.
        x.cut(1);
        x.become(1, 0);
        x.turn(1, 0);
        Due.is(x.fenceIs(1, 4), 203);
    }

    private static void richIsHeld() {
        WalkFences x = new WalkFences();
        x.fence(60, 0);
        Given.text(x, 0, "999");
        x.dawns(60);
        x.dawns(40);
        Due.is(x.fenceIs(0, 4), 99900);
        x.dawns(1);
        Due.is(x.fenceIs(0, 4), 99999);
        x.dawns(1);
        Due.is(x.fenceIs(0, 4), 99999);
        Given.text(x, 0, "0-5");
        x.dawns(1);
        Due.is(x.fenceIs(0, 4), 99999);
    }

    private static void fat() {
        WalkFences x = new WalkFences();
        x.cow(18);
        x.cow(3);
        // d is that of the DAWN that has come.
        Given.text(x, 1, "d");
        x.dawns(1);
        Due.is(x.cowIs(0, 1), 1);
        x.dawns(5);
        Due.is(x.cowIs(0, 1), 21);
        x.dawns(1);
        Due.is(x.cowIs(0, 1), 21);
        x.dawns(1);
        Due.is(x.cowIs(0, 1), 22);
        Given.text(x, 1, "c-10");
        x.dawns(1);
        Due.is(x.cowIs(0, 1), 30);
        Due.is(x.cowIs(1, 1), 15);
        x.dawns(3);
        Due.is(x.cowIs(1, 1), 0);
        // b is the BRAND behind the move; -1 for none.
        x.fence(60, 0);
        Given.diamond(x, 0, 1, 17);
        Given.text(x, 1, "b+2");
        int fat = x.cowIs(0, 1);
        x.dawns(1);
        Due.is(x.cowIs(0, 1), fat + 3);
        Due.is(x.cowIs(1, 1), 1);
        x.dawns(1);
        Due.is(x.cowIs(0, 1), fat + 4);
        // Held within 0 .. 999.
        Given.text(x, 1, "9");
        x.dawns(60);
        x.dawns(60);
        Due.is(x.cowIs(0, 1), 999);
        Due.is(x.cowIs(1, 1), 999);
        Given.text(x, 1, "0-9");
        x.dawns(1);
        Due.is(x.cowIs(1, 1), 990);
        x.dawns(60);
        x.dawns(60);
        Due.is(x.cowIs(1, 1), 0);
        x.untell(1);
        x.dawns(1);
        Due.is(x.cowIs(1, 1), 0);
    }

    private static void lastDawns() {
        WalkFences x = new WalkFences();
        x.fence(30, 0);
        x.post(0, 27);
        Given.dawnIs(x, 9940);
        Due.is(x.dawns(60), Due.STATE);
        Due.is(x.dawns(61), Due.BEYOND);
        Due.is(x.count(2), 9940);
        Due.is(x.dawns(58), 9998);
        Due.is(x.loose(2), Due.STATE);
        Due.is(x.count(8), 1);
        Due.is(x.dawns(2), Due.STATE);
        Due.is(x.dawns(1), 9999);
        Due.is(x.dawns(1), Due.STATE);
        Due.is(x.loose(1), Due.STATE);
        Due.is(x.loose(21), Due.BEYOND);
        Due.is(x.heads(0, 0), 9999 % 4);
        Due.is(x.told(3), 5);
        // What is only thought goes on beyond.
        Due.is(x.then(0, 60, 1), x.fenceIs(0, 4) + 60);
        Given.sheet(x, 0, 8, x.at(0, 0) - 1);
        Due.is(x.fits(0, 0), 1);
        Due.is(x.count(2), 9999);
    }

    private static void lastLoose() {
        WalkFences x = new WalkFences();
        Given.dawnIs(x, 9980);
        Due.is(x.loose(20), Due.STATE);
        Due.is(x.count(2), 9980);
        Due.is(x.count(3), 0);
        Due.is(x.loose(19) > 0 ? 1 : 0, 1);
        Due.is(x.count(2), 9999);
        Due.is(x.loose(1), Due.STATE);
    }

    private static int z = 0;

    private static int draw() {
        z = z * 1103515245 + 12345;
        return z >>> 8;
    }

    private static void loose() {
        WalkFences x = new WalkFences();
        Due.is(x.loose(0), Due.BEYOND);
        Due.is(x.loose(21), Due.BEYOND);
        Due.is(x.loose(-1), Due.BEYOND);
        Due.is(x.count(8), 1);
        z = 1;
        long salt = 0;
        for (int times = 0; times < 30; times++) {
            int n = times % 20 + 1;
            for (int i = 0; i < n; i++) {
                salt ^= 1L << draw() % 64;
            }
            Due.is(x.loose(n), Long.bitCount(salt));
            Due.is(x.count(8), z);
        }
        Due.is(x.count(3), Long.bitCount(salt));
        for (int cell = 0; cell < 64; cell++) {
            Due.is(x.lay(0, cell, 0), salt >>> cell & 1);
        }
        Due.is(x.count(4), 0);
    }

    private static void looseCattle() {
        WalkFences x = new WalkFences();
        int[] cells = {0, 7, 56, 63, 27};
        for (int cell : cells) {
            x.cow(cell);
        }
        // Neither WATER, SALT nor POSTS hold the CATTLE.
        x.fence(60, 0);
        for (int cell : new int[] {1, 6, 57, 62, 26, 28, 19, 35}) {
            x.post(0, cell);
            x.lay(1, cell, 1);
            x.lay(0, cell, 1);
        }
        x.seed(-77);
        z = -77;
        for (int times = 0; times < 60; times++) {
            draw();
            int cow = draw() % cells.length;
            int way = draw() % 4;
            int row = cells[cow] / 8 + (way == 2 ? 1 : way == 0 ? -1 : 0);
            int place = cells[cow] % 8 + (way == 1 ? 1 : way == 3 ? -1 : 0);
            if (row >= 0 && row < 8 && place >= 0 && place < 8) {
                cells[cow] = row * 8 + place;
            }
            x.loose(1);
            Due.is(x.cowIs(cow, 0), cells[cow]);
        }
        for (int i = 0; i < cells.length; i++) {
            Due.is(x.cowIs(i, 0), cells[i]);
        }
        Due.is(x.count(8), z);
    }

    private static void looseCorners() {
        WalkFences x = new WalkFences();
        x.cow(0);
        x.seed(7919);
        z = 7919;
        int came = 0;
        for (int times = 0; times < 160; times++) {
            int[] ahead = {8, 1, 6, 15, 48, 57, 55, 62};
            int from = ahead[times % 8];
            x.drive(0, from);
            draw();
            draw();
            int to = from + new int[] {-8, 1, 8, -1}[draw() % 4];
            boolean beyond = to < 0 || to > 63 || to % 8 == 0 && from % 8 == 7 || to % 8 == 7 && from % 8 == 0;
            x.loose(1);
            Due.is(x.cowIs(0, 0), beyond ? from : to);
            came |= beyond ? 16 : to == 0 ? 1 : to == 7 ? 2 : to == 56 ? 4 : to == 63 ? 8 : 0;
        }
        // Each corner was come to, and the rim held some.
        Due.is(came, 31);
    }

    private static void looseDawns() {
        WalkFences x = new WalkFences();
        x.fence(60, 0);
        x.post(0, 9);
        x.fence(0, 1);
        z = 1;
        int salted = draw() % 64;
        int before = salted % 8 == 0 ? salted : salted - 1;
        x.post(1, before);
        Due.is(x.loose(1), 1);
        // SALT comes ahead of the move, and holds the POST.
        Due.is(x.at(1, 0), before);
        Due.is(x.fenceIs(0, 4), 1);
        Due.is(x.count(2), 1);
        x.loose(20);
        Due.is(x.count(2), 21);
        Due.is(x.fenceIs(0, 4), 21);
        // One that has strayed is FED where it is then.
        WalkFences y = new WalkFences();
        y.cow(9);
        Given.text(y, 1, "c-9");
        z = 5;
        y.seed(5);
        draw();
        draw();
        int step = new int[] {-8, 1, 8, -1}[draw() % 4];
        y.loose(1);
        Due.is(y.cowIs(0, 0), 9 + step);
        Due.is(y.cowIs(0, 1), Math.max(0, step));
    }

    private static void seed() {
        WalkFences x = new WalkFences();
        Due.is(x.seed(-1000000001), 1);
        Due.is(x.seed(Integer.MAX_VALUE), -1000000001);
        Due.is(x.seed(0), Integer.MAX_VALUE);
        Due.is(x.count(8), 0);
        // What it was is no ERROR, whatever it looks like.
        Due.is(x.told(1), 0);
        x.loose(1);
        Due.is(x.seed(7), 12345);
        Due.is(x.count(8), 7);
        Due.is(x.count(2), 1);
    }
}
