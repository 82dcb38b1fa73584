/** Promises 22 to 28: what is, what would be. */
final class ThoughtTest {
    private ThoughtTest() {
    }

    static void all() {
        Due.test("promise 22, land", ThoughtTest::land);
        Due.test("promise 23, then", ThoughtTest::then);
        Due.test("promise 23, then is held and by texts", ThoughtTest::thenHeld);
        Due.test("promise 24, first", ThoughtTest::first);
        Due.test("promise 25, salts", ThoughtTest::salts);
        Due.test("promise 25, salts, two CELLS", ThoughtTest::saltsTwo);
        Due.test("promise 25, salts, wherever", ThoughtTest::saltsAnywhere);
        Due.test("promise 25, salts, by dawns", ThoughtTest::saltsByDawns);
        Due.test("promise 25, salts, beyond", ThoughtTest::saltsBeyond);
        Due.test("promise 26, way", ThoughtTest::way);
        Due.test("promise 26, way behind posts", ThoughtTest::wayBehindPosts);
        Due.test("promise 27, odds", ThoughtTest::odds);
        Due.test("promise 28, fits", ThoughtTest::fits);
        Due.test("promises 22 to 28, thought changes nothing", ThoughtTest::nothingChanges);
    }

    private static void land() {
        WalkFences x = new WalkFences();
        Due.is(x.land(0, 0), Due.BEYOND);
        x.fence(0, 0);
        Due.is(x.land(0, 0), 0);
        Due.is(x.land(0, 1), 0);
        x.post(0, 63);
        x.post(0, 0);
        x.post(0, 63);
        Due.is(x.land(0, 0), Long.MIN_VALUE | 1);
        Given.ring(x, 0, 0, 36);
        Due.is(x.land(1, 1), Given.bits(36));
        Due.is(x.land(1, 0), Given.bits(27, 28, 29, 35, 37, 43, 44, 45));
        Due.is(x.land(0, 1), 0);
        Due.is(x.land(0, 2), Due.BEYOND);
        Due.is(x.land(0, -1), Due.BEYOND);
        Due.is(x.land(-1, 0), Due.BEYOND);
        Due.is(x.land(2, 1), Due.BEYOND);
        Due.is(x.told(1), 5);
    }

    private static void then() {
        WalkFences x = new WalkFences();
        Due.is(x.then(0, 0, 0), Due.BEYOND);
        Given.diamond(x, 0, 3, 10);
        Due.is(x.then(0, 0, 0), 1);
        Due.is(x.then(0, 0, 1), 0);
        Due.is(x.then(0, 1, 0), 1);
        Due.is(x.then(0, 1, 1), 5);
        // At the rim the one to the left stays, and the others come up to it.
        Due.is(x.then(0, 2, 0), 0);
        Due.is(x.then(0, 2, 1), 9);
        Due.is(x.then(0, 60, 1), 241);
        Due.is(x.then(0, -1, 0), Due.BEYOND);
        Due.is(x.then(0, 61, 0), Due.BEYOND);
        Due.is(x.then(0, 1, 2), Due.BEYOND);
        Due.is(x.then(0, 1, -1), Due.BEYOND);
        Due.is(x.then(1, 1, 0), Due.BEYOND);
        Due.is(x.then(-1, 1, 0), Due.BEYOND);
        x.dawns(2);
        Due.is(x.fenceIs(0, 4), 9);
        Due.is(x.then(0, 1, 1), 13);
    }

    private static void thenHeld() {
        WalkFences x = new WalkFences();
        x.fence(60, 0);
        Given.diamond(x, 20, 1, 17);
        Given.text(x, 0, "a*100+k*10");
        Due.is(x.then(1, 1, 1), 120);
        Due.is(x.then(0, 3, 1), 180);
        Given.text(x, 0, "999");
        x.dawns(60);
        Due.is(x.then(0, 40, 1), 99900);
        Due.is(x.then(0, 41, 1), 99999);
        Due.is(x.then(0, 60, 1), 99999);
        Due.is(x.fenceIs(0, 4), 59940);
    }

    private static void first() {
        WalkFences x = new WalkFences();
        Due.is(x.first(20, 0), Due.NONE);
        Due.is(x.first(20, 1), Due.NONE);
        Given.diamond(x, 60, 0, 45);
        Given.diamond(x, 20, 1, 17);
        Given.diamond(x, 0, 3, 22);
        Due.is(x.first(45, 0), 0);
        Due.is(x.first(45, 1), 0);
        Due.is(x.first(22, 0), 0);
        Due.is(x.first(22, 1), 2);
        Due.is(x.first(20, 0), 2);
        Due.is(x.first(20, 1), 2);
        Due.is(x.first(18, 0), 1);
        Due.is(x.first(18, 1), 1);
        Due.is(x.first(0, 0), Due.NONE);
        Due.is(x.first(-1, 0), Due.BEYOND);
        Due.is(x.first(64, 0), Due.BEYOND);
        Due.is(x.first(20, 2), Due.BEYOND);
        Due.is(x.first(20, -1), Due.BEYOND);
        Due.is(x.told(2), 3);
        // Of two that come to it at once, the least.
        Given.diamond(x, 0, 2, 12);
        Due.is(x.first(20, 1), 3);
        Due.is(x.first(20, 0), 1);
        x.turn(3, 0);
        x.become(2, 60);
        Due.is(x.first(20, 0), 5);
        Due.is(x.first(20, 1), 1);
        Due.is(x.fence(0, 0), Due.FULL);
    }

    private static void salts() {
        WalkFences x = new WalkFences();
        Given.diamond(x, 0, 1, 27);
        Due.is(x.salts(0, 27, 0, -1), 0);
        Due.is(x.salts(0, 27, 0, 0), -1);
        Due.is(x.salts(0, 27, 0, 1), -1);
        Due.is(x.salts(0, 28, 0, -1), Due.NONE);
        Due.is(x.salts(0, 28, 1, -1), 0);
        Due.is(x.salts(0, 27, 1, -1), Due.NONE);
        // One more POST above: it is held where it is, by the SALT right of it.
        WalkFences y = new WalkFences();
        Given.diamond(y, 0, 1, 27);
        y.cut(0);
        y.post(0, 36);
        Due.is(y.salts(0, 28, 0, -1), Due.NONE);
        Due.is(y.salts(0, 28, 1, -1), 1);
        Due.is(y.salts(0, 28, 1, 0), 37);
        Due.is(y.salts(0, 28, 1, 1), -1);
        // With that SALT laid none more is wanted.
        y.lay(0, 37, 1);
        Due.is(y.salts(0, 28, 1, -1), 0);
        Due.is(y.salts(0, 28, 1, 0), -1);
        Due.is(y.count(3), 1);
        Due.is(y.count(2), 0);
    }

    private static void saltsTwo() {
        // Two POSTS of four are a CELL ahead; both are to be held.
        WalkFences x = new WalkFences();
        x.fence(0, 1);
        for (int cell : new int[] {20, 27, 29, 36}) {
            x.post(0, cell);
        }
        Due.is(x.salts(0, 28, 0, -1), 0);
        WalkFences y = new WalkFences();
        y.fence(0, 1);
        for (int cell : new int[] {20, 26, 28, 36}) {
            y.post(0, cell);
        }
        Due.is(y.salts(0, 28, 1, -1), 2);
        Due.is(y.salts(0, 28, 1, 0), 21);
        Due.is(y.salts(0, 28, 1, 1), 37);
        // Behind two moves the sets are more; the first by numbers is told.
        WalkFences z = new WalkFences();
        z.fence(0, 1);
        for (int cell : new int[] {19, 25, 27, 36}) {
            z.post(0, cell);
        }
        Due.is(z.salts(0, 28, 2, -1), 2);
        Due.is(z.salts(0, 28, 2, 0), 21);
        Due.is(z.salts(0, 28, 2, 1), 37);
        // Three are more than may be salted.
        WalkFences w = new WalkFences();
        w.fence(0, 1);
        for (int cell : new int[] {20, 27, 28, 36}) {
            w.post(0, cell);
        }
        Due.is(w.salts(0, 28, 1, -1), Due.NONE);
        Due.is(w.salts(0, 28, 1, 1), Due.NONE);
        Due.is(w.told(2), 2);
    }

    private static void areSalts(WalkFences x, int cell, int n, int... due) {
        Due.is(x.salts(0, cell, n, -1), due.length);
        Due.is(x.salts(0, cell, n, 0), due.length > 0 ? due[0] : -1);
        Due.is(x.salts(0, cell, n, 1), due.length > 1 ? due[1] : -1);
    }

    private static void saltsAnywhere() {
        // CELL 0, alone and with another.
        areSalts(Given.walking(0, 3, 1, 9, 11, 18), 9, 1, 0);
        areSalts(Given.walking(0, 3, 1, 9, 11, 17), 9, 1, 0, 16);
        // The last CELL.
        areSalts(Given.walking(0, 1, 62, 45, 52, 54), 54, 1, 63);
        // Two beside one another, ahead of another set with the first of them, 20 and 29.
        areSalts(Given.walking(0, 1, 19, 20, 25, 28, 34, 35), 27, 1, 20, 21);
        // SALT there is already counts for none.
        WalkFences x = Given.walking(0, 1, 20, 26, 28, 36);
        x.lay(0, 21, 1);
        areSalts(x, 28, 1, 37);
        // WATER holds those that do not go OVER it.
        WalkFences y = Given.walking(10, 1, 20, 26, 28, 36);
        y.lay(1, 37, 1);
        areSalts(y, 28, 1, 21);
        y.become(0, 0);
        areSalts(y, 28, 1, 21, 37);
    }

    private static void saltsByDawns() {
        for (int dawn = 0; dawn < 6; dawn++) {
            // A TURNER that at this DAWN goes right, at the next one down.
            int heading = Math.floorMod(1 - dawn, 4);
            WalkFences x = Given.walking(60, heading, 19, 26, 28, 35);
            Given.dawnIs(x, dawn);
            x.become(0, 30);
            areSalts(x, 28, 1);
            areSalts(x, 36, 2);
            Due.is(x.salts(0, 20, 2, -1), Due.NONE);
            // CELL 28 stays, by the SALT there is, then goes down to 36, unless SALT comes there.
            WalkFences y = Given.walking(60, heading, 28, 17, 26, 10);
            y.lay(0, 29, 1);
            Given.dawnIs(y, dawn);
            y.become(0, 30);
            areSalts(y, 27, 2, 36);
        }
    }

    private static void saltsBeyond() {
        WalkFences x = new WalkFences();
        Due.is(x.salts(0, 0, 0, 0), Due.BEYOND);
        x.fence(0, 0);
        Due.is(x.salts(-1, 0, 0, 0), Due.BEYOND);
        Due.is(x.salts(1, 0, 0, 0), Due.BEYOND);
        Due.is(x.salts(0, -1, 0, 0), Due.BEYOND);
        Due.is(x.salts(0, 64, 0, 0), Due.BEYOND);
        Due.is(x.salts(0, 0, -1, 0), Due.BEYOND);
        Due.is(x.salts(0, 0, 7, 0), Due.BEYOND);
        Due.is(x.salts(0, 0, 6, -2), Due.BEYOND);
        Due.is(x.salts(0, 0, 6, 2), Due.BEYOND);
        Due.is(x.salts(0, 9, 6, -1), Due.NONE);
        Due.is(x.told(1), 9);
    }

    private static void way() {
        WalkFences x = new WalkFences();
        Due.is(x.way(0, 0), Due.BEYOND);
        x.cow(0);
        Due.is(x.way(0, 0), 0);
        Due.is(x.way(0, 1), 1);
        Due.is(x.way(0, 8), 1);
        Due.is(x.way(0, 9), 2);
        Due.is(x.way(0, 63), 14);
        Due.is(x.way(0, 7), 7);
        Due.is(x.way(0, -1), Due.BEYOND);
        Due.is(x.way(0, 64), Due.BEYOND);
        Due.is(x.way(1, 0), Due.BEYOND);
        Due.is(x.way(-1, 0), Due.BEYOND);
        // SALT and WATER do not hold the CATTLE.
        x.lay(0, 1, 1);
        x.lay(0, 8, 1);
        x.lay(1, 1, 1);
        x.lay(1, 8, 1);
        Due.is(x.way(0, 9), 2);
        Due.is(x.cowIs(0, 0), 0);
    }

    private static void wayBehindPosts() {
        // A HEDGE all around.
        WalkFences x = new WalkFences();
        Given.diamond(x, 60, 1, 27);
        x.cow(27);
        x.cow(0);
        Due.is(x.way(0, 28), Due.NONE);
        Due.is(x.way(0, 27), 0);
        Due.is(x.way(0, 0), Due.NONE);
        Due.is(x.way(1, 27), Due.NONE);
        Due.is(x.way(1, 63), 14);
        // Whoever is where a POST comes may stay there, and go on.
        x.become(0, 69);
        Due.is(x.way(0, 26), 1);
        Due.is(x.way(0, 28), 1);
        Due.is(x.way(1, 27), 6);
        // The POSTS of all FENCES bar it, and only those: the gap of one is filled by another.
        x.become(0, 60);
        x.cut(0);
        Due.is(x.way(0, 35), 1);
        x.fence(60, 0);
        x.post(1, 35);
        Due.is(x.way(0, 35), Due.NONE);
        x.drive(0, 35);
        Due.is(x.way(0, 34), 1);
        Due.is(x.told(2), 4);
        // POSTS move first: where one goes away one may come at once, where one comes not.
        WalkFences y = new WalkFences();
        y.fence(0, 1);
        y.post(0, 10);
        y.cow(18);
        y.cow(3);
        Due.is(y.way(0, 10), 1);
        Due.is(y.way(0, 11), 2);
        Due.is(y.way(1, 11), 2);
    }

    private static void odds() {
        WalkFences x = new WalkFences();
        Due.is(x.odds(0), 0);
        Due.is(x.odds(1), 1);
        Due.is(x.odds(-1), Due.BEYOND);
        Due.is(x.odds(2), Due.BEYOND);
        Given.diamond(x, 60, 0, 9);
        Due.is(x.odds(0), 1);
        Due.is(x.odds(1), 64);
        Given.diamond(x, 60, 0, 54);
        Due.is(x.odds(0), 1);
        Due.is(x.odds(1), 32);
        Given.diamond(x, 60, 0, 49);
        Due.is(x.odds(0), 3);
        Due.is(x.odds(1), 64);
        // One that is INSIDE of two counts once.
        x.fence(60, 0);
        for (int cell : new int[] {1, 2, 8, 11, 17, 18}) {
            x.post(3, cell);
        }
        Due.is(x.odds(0), 1);
        Due.is(x.odds(1), 16);
        // Eight CELLS of one.
        WalkFences y = new WalkFences();
        y.fence(60, 0);
        for (int cell : new int[] {20, 27, 29, 34, 38, 43, 45, 52}) {
            y.post(0, cell);
        }
        Due.is(y.odds(0), 5);
        Due.is(y.odds(1), 64);
        Due.is(y.land(0, 1), Given.bits(28, 35, 36, 37, 44));
    }

    private static void fits() {
        WalkFences x = new WalkFences();
        Due.is(x.fits(0, 0), Due.BEYOND);
        x.fence(0, 1);
        Due.is(x.fits(0, 0), Due.NONE);
        Due.is(x.fits(-1, 0), Due.BEYOND);
        Due.is(x.fits(4, 0), Due.BEYOND);
        Due.is(x.fits(0, 1), Due.BEYOND);
        Due.is(x.fits(0, -1), Due.BEYOND);
        x.sheet(0, 8, 0);
        Due.is(x.fits(0, 0), 0);
        x.post(0, 9);
        x.post(0, 17);
        Due.is(x.fits(0, 0), Due.NONE);
        Given.sheet(x, 0, 8, 9, 17);
        Due.is(x.fits(0, 0), 0);
        Given.sheet(x, 1, 16, 12, 20);
        Due.is(x.fits(1, 0), 3);
        Given.sheet(x, 2, 32, 20, 12);
        Due.is(x.fits(2, 0), Due.NONE);
        Given.sheet(x, 2, 32, 12);
        Due.is(x.fits(2, 0), Due.NONE);
        Given.sheet(x, 2, 32, 12, 20, 0);
        Due.is(x.fits(2, 0), Due.NONE);
        Given.sheet(x, 2, 32, 15, 23);
        Due.is(x.fits(2, 0), 6);
        Given.sheet(x, 2, 32, 8, 16);
        Due.is(x.fits(2, 0), Due.NONE);
        // All 8, and none of those that were cut off.
        WalkFences y = new WalkFences();
        Given.ring(y, 0, 1, 18);
        Given.sheet(y, 0, 8, 10, 11, 12, 18, 20, 26, 27, 28);
        Due.is(y.fits(0, 0), 1);
        y.cut(0);
        Given.sheet(y, 0, 8, 10, 11, 12, 18, 20, 26, 27);
        Due.is(y.fits(0, 0), 1);
        y.put(0, 6, 28);
        Due.is(y.fits(0, 0), Due.NONE);
        // Its lowest bits: 265 is 9 in 8 bits.
        Given.sheet(x, 3, 8, 265, 273);
        Due.is(x.fits(3, 0), 0);
        Given.sheet(x, 3, 16, 265, 273);
        Due.is(x.fits(3, 0), Due.NONE);
    }

    private static void nothingChanges() {
        WalkFences x = new WalkFences();
        Given.diamond(x, 0, 1, 18);
        Given.ring(x, 31, 2, 45);
        x.cow(18);
        x.cow(50);
        Given.text(x, 1, "d");
        Given.tape(x, "a+");
        x.tell(5);
        Given.sheet(x, 0, 8, 11, 18, 20, 27);
        x.dawns(1);
        for (int fence = 0; fence < 2; fence++) {
            x.land(fence, 1);
            x.then(fence, 60, 0);
            x.then(fence, 60, 1);
            x.salts(fence, 20, 6, 0);
            x.fits(0, fence);
        }
        x.first(30, 0);
        x.way(0, 63);
        x.way(1, 0);
        x.odds(0);
        Due.is(x.count(2), 1);
        Due.is(x.count(3), 0);
        Due.is(x.count(5), 2);
        Due.is(x.count(6), 1);
        Due.is(x.count(8), 1);
        Due.is(x.land(0, 0), Given.bits(11, 18, 20, 27));
        Due.is(x.land(1, 1), Given.bits(53));
        Due.is(x.fenceIs(0, 4), 5);
        Due.is(x.cowIs(0, 0), 18);
        Due.is(x.cowIs(0, 1), 1);
        Due.is(x.cowIs(1, 0), 50);
    }
}
