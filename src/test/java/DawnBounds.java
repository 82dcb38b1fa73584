/** Boundary cases of promises 19 to 21: dawns, dawns by draws, seeds. */
final class DawnBounds {
    private DawnBounds() {
    }

    static void all() {
        dawns();
        loose();
        seed();
    }

    private static void dawns() {
        Sentence.holds("promise 19", "n (1 .. 60) DAWNS: DAWN.", "1 and 60", () -> {
            WalkFences x = Given.walking(0, 0, 9);
            Due.is(x.dawns(1), 1);
            Due.is(x.fenceIs(0, 4), 1);
            Due.is(x.dawns(60), 61);
            Due.is(x.fenceIs(0, 4), 61);
            Due.is(x.count(2), 61);
        });
        Sentence.holds("promise 19", "BEYOND.", "none, 61, and further out", () -> {
            WalkFences x = Given.walking(0, 0, 9);
            for (int wrong : Given.outside(1, 60)) {
                Due.is(x.dawns(wrong), Due.BEYOND);
            }
            Due.each(0, x.count(2), x.fenceIs(0, 4));
            Due.is(x.at(0, 0), 9);
        });
        Sentence.holds("promise 19", "STATE: it would be above 9999.", "9999 is come to by 60 and by 1, and not a DAWN more", () -> {
            WalkFences x = Given.walking(60, 0, 9);
            Given.dawnIs(x, 9939);
            Due.is(x.dawns(60), 9999);
            Due.is(x.fenceIs(0, 4), 9999);
            Due.each(Due.STATE, x.dawns(1), x.dawns(60));
            Due.is(x.count(2), 9999);
            Due.is(x.fenceIs(0, 4), 9999);
        });
        Sentence.holds("promise 19", "STATE: it would be above 9999.", "no part of the n DAWNS comes", () -> {
            WalkFences x = Given.walking(60, 0, 9);
            Given.dawnIs(x, 9940);
            Due.is(x.dawns(60), Due.STATE);
            Due.is(x.count(2), 9940);
            Due.is(x.fenceIs(0, 4), 9940);
            Due.is(x.dawns(59), 9999);
        });
        Sentence.holds("promise 19", "BEYOND. STATE: it would be above 9999.", "at DAWN 9999 BEYOND is asked first", () -> {
            WalkFences x = new WalkFences();
            Given.dawnIs(x, 9999);
            Due.each(Due.BEYOND, x.dawns(0), x.dawns(61), x.dawns(-1), x.dawns(Integer.MAX_VALUE));
            Due.is(x.dawns(1), Due.STATE);
        });
    }

    private static void loose() {
        String sentence = "n (1 .. 20) DAWNS BY DRAWS: how many CELLS have SALT.";
        Sentence.holds("promise 20", sentence, "1 and 20", () -> {
            WalkFences x = new WalkFences();
            Due.is(x.loose(1), 1);
            Due.is(x.count(2), 1);
            WalkFences y = new WalkFences();
            y.seed(x.seed(0));
            y.lay(0, 62, 1);
            int salted = x.count(3);
            x.seed(y.count(8));
            for (int i = 0; i < 20; i++) {
                salted = x.loose(1);
            }
            Due.is(y.loose(20), salted);
            Due.is(y.count(2), 20);
            Due.is(y.count(8), x.count(8));
        });
        Sentence.holds("promise 20", sentence, "none has, or all have: the last one more, the first one less", () -> {
            // By z 0 the CELL is 48.
            WalkFences x = new WalkFences();
            x.lay(0, 48, 1);
            x.seed(0);
            Due.is(x.loose(1), 0);
            for (int cell = 0; cell < 64; cell++) {
                x.lay(0, cell, cell == 48 ? 0 : 1);
            }
            x.seed(0);
            Due.is(x.loose(1), 64);
            x.seed(0);
            Due.is(x.loose(1), 63);
        });
        Sentence.holds("promise 20", "BEYOND.", "none, 21, and further out", () -> {
            WalkFences x = new WalkFences();
            for (int wrong : Given.outside(1, 20)) {
                Due.is(x.loose(wrong), Due.BEYOND);
            }
            Due.each(0, x.count(2), x.count(3));
            Due.is(x.count(8), 1);
        });
        Sentence.holds("promise 20", "STATE: DAWN would be above 9999.", "9999 is come to by 20 and by 1, and not a DAWN more", () -> {
            WalkFences x = new WalkFences();
            Given.dawnIs(x, 9978);
            Due.is(x.loose(20) >= 0 ? x.count(2) : -1, 9998);
            Due.is(x.loose(1) >= 0 ? x.count(2) : -1, 9999);
            Due.each(Due.STATE, x.loose(1), x.loose(20));
            Due.is(x.count(2), 9999);
        });
        Sentence.holds("promise 20", "STATE: DAWN would be above 9999.", "no part of the n DAWNS comes, and no draw", () -> {
            WalkFences x = Given.walking(60, 0, 9);
            x.cow(27);
            Given.dawnIs(x, 9980);
            Due.is(x.loose(20), Due.STATE);
            Due.is(x.count(2), 9980);
            Due.is(x.fenceIs(0, 4), 9980);
            Due.is(x.count(3), 0);
            Due.is(x.count(8), 1);
            Due.is(x.cowIs(0, 0), 27);
            x.loose(19);
            Due.is(x.count(2), 9999);
        });
        Sentence.holds("promise 20", "BEYOND. STATE: DAWN would be above 9999.", "at DAWN 9999 BEYOND is asked first", () -> {
            WalkFences x = new WalkFences();
            Given.dawnIs(x, 9999);
            Due.each(Due.BEYOND, x.loose(0), x.loose(21), x.loose(-1), x.loose(Integer.MAX_VALUE));
            Due.is(x.loose(1), Due.STATE);
        });
    }

    private static void seed() {
        Sentence.holds("promise 21", "z becomes v: what it was (any number).", "1 at first; the least int, the most, 0, and what looks like an ERROR", () -> {
            WalkFences x = new WalkFences();
            int was = 1;
            for (int v : new int[] {Integer.MIN_VALUE, Integer.MAX_VALUE, 0, -1, -1000000000, -1000000001, -1000000006}) {
                Due.is(x.seed(v), was);
                Due.is(x.count(8), v);
                was = v;
            }
            Due.each(0, x.told(1), x.told(6));
        });
    }
}
