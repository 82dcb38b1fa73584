/** Boundary cases of section 3 of Terms and of promises 22 to 28: what is, what would be. */
final class ThoughtBounds {
    private static final int[] PLUS = {20, 27, 29, 34, 38, 43, 45, 52};

    private ThoughtBounds() {
    }

    static void all() {
        onlyThought();
        land();
        thenTerms();
        thenPromise();
        first();
        saltsTerms();
        saltsPromise();
        way();
        odds();
        fitsTerms();
        fitsPromise();
    }

    private static void onlyThought() {
        String sentence = "(All this is only thought; DAWN beyond 9999, too.)";
        Sentence.holds("Terms 3", sentence, "at DAWN 9999 each goes on, by the DAWN that it would be", () -> {
            // It stays at the odd DAWN 9999, and goes on at 10000 and 10002.
            WalkFences x = new WalkFences();
            Given.diamond(x, 60, 1, 26);
            x.cow(26);
            Given.dawnIs(x, 9999);
            x.become(0, 20);
            Due.is(x.first(27, 0), 2);
            Due.is(x.first(28, 0), 4);
            Due.is(x.salts(0, 26, 1, -1), 0);
            Due.is(x.salts(0, 27, 2, -1), 0);
            Due.is(x.salts(0, 28, 6, -1), Due.NONE);
            Due.is(x.salts(0, 29, 6, -1), 0);
            Given.sheet(x, 0, 8, 19, 26, 28, 35);
            Due.is(x.fits(0, 0), 2);
            Due.is(x.way(0, 27), 2);
            Due.is(x.then(0, 60, 0), 0);
            Due.is(x.then(0, 60, 1), x.fenceIs(0, 4) + 60 * 4 + 9);
            Due.is(x.count(2), 9999);
            Due.is(x.land(0, 1), 1L << 26);
            Due.is(x.dawns(1), Due.STATE);
        });
        Sentence.holds("Terms 3", sentence, "nothing is changed, by what is found and by what is not", () -> {
            WalkFences x = new WalkFences();
            Given.diamond(x, 0, 1, 26);
            x.cow(26);
            Due.is(x.then(0, 60, 1), 60 * 4 + 4);
            Due.is(x.first(27, 1), 0);
            Due.is(x.first(0, 0), Due.NONE);
            Due.is(x.salts(0, 30, 6, -1), Due.NONE);
            Due.is(x.salts(0, 28, 2, -1), 0);
            Due.is(x.way(0, 63), 9);
            Given.sheet(x, 0, 8, 0, 0, 0, 0);
            Due.is(x.fits(0, 0), Due.NONE);
            Due.each(0, x.count(2), x.count(3), x.fenceIs(0, 4), x.cowIs(0, 1), x.cowIs(0, 2));
            Due.is(x.count(8), 1);
            Due.is(x.cowIs(0, 0), 26);
            Due.is(x.land(0, 0), Given.bits(18, 25, 27, 34));
        });
    }

    private static void land() {
        String sentence = "CELLS of the POSTS of a FENCE (what 0), INSIDE of it (1), as a set (bits 0 .. 63; any number).";
        Sentence.holds("promise 22", sentence, "none, bit 0, bit 63 (the least long), and each bit between", () -> {
            Due.each(0, Given.fences(1).land(0, 0), Given.fences(1).land(0, 1));
            for (int cell = 0; cell < 64; cell++) {
                Due.is(Given.walking(0, 0, cell).land(0, 0), 1L << cell);
            }
            WalkFences x = Given.walking(0, 0, 63);
            Due.is(x.land(0, 0), Long.MIN_VALUE);
            Due.is(x.told(1), 0);
        });
        Sentence.holds("promise 22", sentence, "INSIDE: the least CELL and the last that can be, and the most of them", () -> {
            WalkFences x = new WalkFences();
            Given.diamond(x, 0, 0, 9);
            Given.diamond(x, 0, 0, 54);
            Given.posts(x, x.fence(0, 0), PLUS);
            Due.is(x.land(0, 1), 1L << 9);
            Due.is(x.land(1, 1), 1L << 54);
            Due.is(x.land(2, 1), Given.bits(28, 35, 36, 37, 44));
            Due.is(x.land(2, 0), Given.bits(PLUS));
        });
        Sentence.holds("promise 22", "BEYOND.", "no such FENCE", () -> {
            WalkFences x = Given.fences(2);
            for (int wrong : Given.outside(0, 1)) {
                Due.each(Due.BEYOND, x.land(wrong, 0), x.land(wrong, 1));
            }
        });
        Sentence.holds("promise 22", "BEYOND.", "what that is neither 0 nor 1", () -> {
            WalkFences x = Given.walking(0, 0, 5);
            for (int wrong : Given.outside(0, 1)) {
                Due.is(x.land(0, wrong), Due.BEYOND);
            }
        });
    }

    private static void thenTerms() {
        String sentence = "THEN: ACRES of a FENCE, how RICH it is, n DAWNS on.";
        Sentence.holds("Terms 3", sentence, "RICH is held at 99999 in thought, too", () -> {
            WalkFences x = Given.fences(1);
            Given.text(x, 0, "999");
            x.dawns(60);
            x.dawns(20);
            Due.is(x.then(0, 20, 1), 99900);
            Due.each(99999, x.then(0, 21, 1), x.then(0, 60, 1));
            Due.is(x.fenceIs(0, 4), 79920);
        });
        Sentence.holds("Terms 3", sentence, "a FENCE without POSTS", () -> {
            WalkFences x = Given.fences(1);
            Due.each(0, x.then(0, 60, 0), x.then(0, 60, 1));
        });
    }

    private static void thenPromise() {
        String sentence = "THEN, for n (0 .. 60): what 0 ACRES, 1 RICH.";
        Sentence.holds("promise 23", sentence, "0 DAWNS on: as it is", () -> {
            WalkFences x = Given.walking(60, 0, PLUS);
            x.dawns(2);
            Due.is(x.then(0, 0, 0), 5);
            Due.is(x.then(0, 0, 1), 26);
        });
        Sentence.holds("promise 23", sentence, "1 and 60 DAWNS on", () -> {
            WalkFences x = new WalkFences();
            Given.diamond(x, 0, 3, 10);
            Due.is(x.then(0, 1, 0), 1);
            Due.is(x.then(0, 1, 1), 5);
            Due.is(x.then(0, 60, 0), 0);
            Due.is(x.then(0, 60, 1), 5 + 59 * 4);
            x.dawns(60);
            Due.is(x.fenceIs(0, 4), 241);
        });
        Sentence.holds("promise 23", "BEYOND.", "no such FENCE", () -> {
            WalkFences x = Given.fences(3);
            for (int wrong : Given.outside(0, 2)) {
                Due.is(x.then(wrong, 0, 0), Due.BEYOND);
            }
        });
        Sentence.holds("promise 23", "BEYOND.", "n below 0 or above 60", () -> {
            WalkFences x = Given.fences(1);
            for (int wrong : Given.outside(0, 60)) {
                Due.each(Due.BEYOND, x.then(0, wrong, 0), x.then(0, wrong, 1));
            }
        });
        Sentence.holds("promise 23", "BEYOND.", "what that is neither 0 nor 1", () -> {
            WalkFences x = Given.fences(1);
            for (int wrong : Given.outside(0, 1)) {
                Due.is(x.then(0, 0, wrong), Due.BEYOND);
            }
        });
    }

    /** A FENCE that closes CELL 36, for a move, by the move 61 less this DAWN. */
    private static WalkFences closing(int dawn) {
        WalkFences x = Given.spiral(dawn);
        // Three more POSTS, which SALT holds for ever, wait for the first to come above 36.
        Given.posts(x, 0, 35, 37, 44);
        for (int cell : new int[] {27, 29, 34, 36, 38, 43, 45, 52}) {
            x.lay(0, cell, 1);
        }
        return x;
    }

    private static void first() {
        String sentence = "FIRST: behind how many times (0 .. 60) that POSTS MOVE a CELL first has a BRAND; which.";
        Sentence.holds("Terms 3", sentence, "0 times: it has one now", () -> {
            WalkFences x = Given.fences(3);
            Given.diamond(x, 0, 1, 27);
            Due.is(x.first(27, 0), 0);
            Due.is(x.first(27, 1), 3);
        });
        Sentence.holds("Terms 3", sentence, "60 times", () -> {
            Due.is(closing(1).first(36, 0), 60);
            Due.is(closing(1).first(36, 1), 0);
            Due.is(closing(2).first(36, 0), 59);
        });
        Sentence.holds("Terms 3", sentence, "of two FENCES the one that is first, of two at once the least", () -> {
            WalkFences x = new WalkFences();
            Given.diamond(x, 0, 1, 26);
            Given.diamond(x, 0, 3, 29);
            Due.is(x.first(28, 0), 1);
            Due.is(x.first(28, 1), 1);
            x.turn(1, 0);
            Given.diamond(x, 0, 3, 30);
            Due.is(x.first(28, 0), 2);
            Due.is(x.first(28, 1), 0);
        });
        Sentence.holds("promise 24", "FIRST: what 0 behind how many times, 1 the BRAND.", "both as small as can be, and the BRAND as much", () -> {
            WalkFences x = new WalkFences();
            Given.diamond(x, 0, 1, 9);
            Due.each(0, x.first(9, 0), x.first(9, 1));
            x.fence(0, 0);
            x.fence(0, 0);
            Given.diamond(x, 0, 1, 53);
            Due.is(x.first(54, 0), 1);
            Due.is(x.first(54, 1), 3);
        });
        Sentence.holds("promise 24", "BEYOND.", "no such CELL", () -> {
            WalkFences x = Given.fences(1);
            for (int wrong : Given.outside(0, 63)) {
                Due.each(Due.BEYOND, x.first(wrong, 0), x.first(wrong, 1));
            }
        });
        Sentence.holds("promise 24", "BEYOND.", "what that is neither 0 nor 1", () -> {
            WalkFences x = new WalkFences();
            Given.diamond(x, 0, 1, 9);
            for (int wrong : Given.outside(0, 1)) {
                Due.each(Due.BEYOND, x.first(9, wrong), x.first(0, wrong));
            }
            Due.is(x.told(2), 0);
        });
        Sentence.holds("promise 24", "NONE: not by 60.", "at the 61st, never, and without FENCES", () -> {
            Due.each(Due.NONE, closing(0).first(36, 0), closing(0).first(36, 1));
            WalkFences x = new WalkFences();
            Due.each(Due.NONE, x.first(27, 0), x.first(27, 1));
            Given.diamond(x, 0, 1, 27);
            Due.each(Due.NONE, x.first(0, 0), x.first(63, 1), x.first(26, 0));
        });
    }

    /** What SALTS of FENCE 0 tells: so many, and which. */
    private static void areSalts(WalkFences x, int cell, int n, int... due) {
        Due.is(x.salts(0, cell, n, -1), due.length);
        Due.is(x.salts(0, cell, n, 0), due.length > 0 ? due[0] : -1);
        Due.is(x.salts(0, cell, n, 1), due.length > 1 ? due[1] : -1);
    }

    private static void saltsTerms() {
        String sentence = "SALTS: the fewest CELLS (0 .. 2) more to be salted (now) so that, POSTS having MOVED n times, a CELL is INSIDE of a "
                + "FENCE; of several sets the first by numbers.";
        Sentence.holds("Terms 3", sentence, "none is wanted: none is told, though some would do no harm", () -> {
            WalkFences x = new WalkFences();
            Given.diamond(x, 0, 1, 27);
            areSalts(x, 27, 0);
            areSalts(x, 28, 1);
        });
        Sentence.holds("Terms 3", sentence, "one: the first CELL, the last, and one in place of two", () -> {
            areSalts(Given.walking(0, 3, 1, 9, 11, 18), 9, 1, 0);
            areSalts(Given.walking(0, 1, 62, 45, 52, 54), 54, 1, 63);
        });
        Sentence.holds("Terms 3", sentence, "two: with the first CELL, with the last, beside one another", () -> {
            areSalts(Given.walking(0, 3, 1, 9, 11, 17), 9, 1, 0, 16);
            areSalts(Given.walking(0, 1, 62, 46, 52, 54), 54, 1, 47, 63);
            areSalts(Given.walking(0, 1, 19, 20, 25, 28, 34, 35), 27, 1, 20, 21);
        });
        Sentence.holds("Terms 3", sentence, "more: CELLS with SALT count for none", () -> {
            WalkFences x = Given.walking(0, 1, 20, 26, 28, 36);
            areSalts(x, 28, 1, 21, 37);
            x.lay(0, 21, 1);
            areSalts(x, 28, 1, 37);
            x.lay(0, 37, 1);
            areSalts(x, 28, 1);
        });
        Sentence.holds("Terms 3", sentence, "now: SALT holds from the first move on", () -> {
            // By the second move no POST comes to CELL 20 any more: one did by the first.
            WalkFences x = Given.walking(0, 1, 19, 24, 26, 33);
            areSalts(x, 27, 2, 20);
        });
        Sentence.holds("Terms 3", sentence, "POSTS HEAD by the DAWN of each move, from the first on", () -> {
            // At DAWN 0 they go right, at 1 down: the POST in 28 is held by 29, and then by SALT in 36.
            WalkFences x = Given.walking(30, 1, 28, 17, 26, 10);
            x.lay(0, 29, 1);
            areSalts(x, 27, 2, 36);
        });
        Sentence.holds("Terms 3", sentence, "of several sets the first by numbers", () -> {
            // SALT in 36 closes CELL 27 alone, SALT in 44 closes 27 and 35.
            areSalts(Given.walking(0, 1, 18, 25, 27, 33, 35, 43), 27, 1, 36);
            areSalts(Given.walking(0, 1, 43, 35, 33, 27, 25, 18), 27, 1, 36);
            // 20 and 21 close 27 and 28, 20 and 29 close 27 alone.
            areSalts(Given.walking(0, 1, 19, 20, 25, 28, 34, 35), 27, 1, 20, 21);
        });
    }

    private static void saltsPromise() {
        String sentence = "SALTS, for n (0 .. 6): what -1 how many, 0, 1 the CELL there (-1: there is none such).";
        Sentence.holds("promise 25", sentence, "n 0: as it is, and SALT changes nothing", () -> {
            WalkFences x = Given.walking(0, 1, 19, 26, 28, 35);
            areSalts(x, 27, 0);
            Due.is(x.salts(0, 28, 0, -1), Due.NONE);
        });
        Sentence.holds("promise 25", sentence, "n 6: three steps of a LAGGING one", () -> {
            WalkFences x = Given.walking(20, 1, 17, 24, 26, 33);
            areSalts(x, 25, 0);
            areSalts(x, 28, 5);
            areSalts(x, 28, 6);
            // The POST below is a step ahead: it is held by its third step's SALT.
            WalkFences y = Given.walking(20, 1, 17, 24, 26, 34);
            areSalts(y, 28, 6, 37);
        });
        Sentence.holds("promise 25", sentence, "of a FENCE of 8 POSTS, the last of which is to be held", () -> {
            areSalts(Given.walking(0, 1, 0, 1, 2, 3, 20, 26, 28, 36), 28, 1, 21, 37);
            Due.is(Given.walking(0, 1, 0, 1, 2, 3, 20, 27, 28, 36).salts(0, 28, 1, -1), Due.NONE);
        });
        Sentence.holds("promise 25", sentence, "-1 where there is none such: of none, of one, of two", () -> {
            areSalts(Given.walking(0, 1, 20, 27, 29, 36), 28, 0);
            areSalts(Given.walking(0, 1, 20, 26, 28, 35), 28, 1, 21);
            areSalts(Given.walking(0, 1, 20, 26, 28, 36), 28, 1, 21, 37);
        });
        Sentence.holds("promise 25", "BEYOND.", "no such FENCE", () -> {
            WalkFences x = Given.fences(1);
            for (int wrong : Given.outside(0, 0)) {
                Due.is(x.salts(wrong, 9, 0, -1), Due.BEYOND);
            }
        });
        Sentence.holds("promise 25", "BEYOND.", "no such CELL", () -> {
            WalkFences x = Given.fences(1);
            for (int wrong : Given.outside(0, 63)) {
                Due.is(x.salts(0, wrong, 0, -1), Due.BEYOND);
            }
        });
        Sentence.holds("promise 25", "BEYOND.", "n below 0 or above 6", () -> {
            WalkFences x = Given.walking(60, 0, 19, 26, 28, 35);
            for (int wrong : Given.outside(0, 6)) {
                Due.is(x.salts(0, 27, wrong, -1), Due.BEYOND);
            }
        });
        Sentence.holds("promise 25", "BEYOND.", "what below -1 or above 1, though nothing would be found", () -> {
            WalkFences x = Given.walking(60, 0, 19, 26, 28, 35);
            for (int wrong : Given.outside(-1, 1)) {
                Due.each(Due.BEYOND, x.salts(0, 27, 0, wrong), x.salts(0, 0, 6, wrong));
            }
            Due.is(x.told(2), 0);
        });
        Sentence.holds("promise 25", "NONE: not by 2.", "three are wanted, or nothing helps, or there are no POSTS", () -> {
            WalkFences x = Given.walking(0, 1, 20, 27, 28, 36);
            Due.each(Due.NONE, x.salts(0, 28, 1, -1), x.salts(0, 28, 1, 0), x.salts(0, 28, 1, 1), x.salts(0, 0, 6, -1));
            WalkFences y = Given.fences(1);
            Due.each(Due.NONE, y.salts(0, 27, 6, -1), y.salts(0, 27, 0, 1));
        });
    }

    private static void way() {
        String sentence = "WAY of one of the CATTLE: again and again POSTS MOVE, then it may go to a CELL beside its own in which no POST "
                + "(of any FENCE) is, or stay: behind how many times (0 .. 60) it can first be in a CELL.";
        Sentence.holds("Terms 3", sentence, "0 times: where it is, though a POST is there", () -> {
            WalkFences x = Given.walking(60, 0, 27);
            x.cow(27);
            Due.is(x.way(0, 27), 0);
            Due.is(x.way(0, 28), 1);
        });
        Sentence.holds("Terms 3", sentence, "once: to each side, and not slantwise, nor from row to row", () -> {
            WalkFences x = Given.cattle(27, 0, 63, 7);
            Due.each(1, x.way(0, 19), x.way(0, 28), x.way(0, 35), x.way(0, 26));
            Due.each(2, x.way(0, 18), x.way(0, 20), x.way(0, 34), x.way(0, 36));
            Due.each(1, x.way(1, 1), x.way(1, 8), x.way(2, 62), x.way(2, 55));
            Due.each(14, x.way(1, 63), x.way(2, 0), x.way(3, 56));
            Due.is(x.way(3, 8), 8);
        });
        Sentence.holds("Terms 3", sentence, "60 times", () -> {
            Due.is(Given.longWay(3).way(0, 49), 60);
            Due.is(Given.longWay(4).way(0, 48), 60);
        });
        Sentence.holds("Terms 3", sentence, "POSTS MOVE first: where one came it may not go, where one was it may", () -> {
            WalkFences x = Given.walking(0, 1, 10);
            x.cow(18);
            x.cow(3);
            Due.is(x.way(0, 10), 1);
            Due.is(x.way(1, 11), 2);
        });
        Sentence.holds("Terms 3", sentence, "SALT, WATER and others of the CATTLE do not keep it", () -> {
            WalkFences x = Given.cattle(0, 1, 8);
            for (int cell : new int[] {0, 1, 8}) {
                x.lay(0, cell, 1);
                x.lay(1, cell, 1);
            }
            Due.is(x.way(0, 9), 2);
        });
        Sentence.holds("Terms 3", sentence, "it stays where a POST comes, and goes on from there", () -> {
            WalkFences x = new WalkFences();
            x.dawns(1);
            Given.posts(x, x.fence(0, 3), 1);
            Given.posts(x, x.fence(60, 0), 1);
            // This one opens the way by the second move, when the first POST is in CELL 0.
            Given.posts(x, x.fence(20, 2), 8);
            x.cow(0);
            Due.is(x.way(0, 8), 2);
        });
        Sentence.holds("promise 26", "WAY.", "the first of the CATTLE and the last, the first CELL and the last", () -> {
            WalkFences x = Given.cattle(0, 1, 1, 1, 1, 63);
            Due.each(0, x.way(0, 0), x.way(5, 63));
            Due.each(14, x.way(0, 63), x.way(5, 0));
        });
        Sentence.holds("promise 26", "BEYOND.", "no such one", () -> {
            WalkFences x = Given.cattle(9, 9);
            for (int wrong : Given.outside(0, 1)) {
                Due.is(x.way(wrong, 9), Due.BEYOND);
            }
        });
        Sentence.holds("promise 26", "BEYOND.", "no such CELL", () -> {
            WalkFences x = Given.cattle(9);
            for (int wrong : Given.outside(0, 63)) {
                Due.is(x.way(0, wrong), Due.BEYOND);
            }
        });
        Sentence.holds("promise 26", "NONE: not by 60.", "at the 61st, and never", () -> {
            Due.is(Given.longWay(2).way(0, 49), Due.NONE);
            Due.is(Given.longWay(3).way(0, 48), Due.NONE);
            WalkFences x = new WalkFences();
            Given.diamond(x, 60, 0, 27);
            x.cow(27);
            Due.each(Due.NONE, x.way(0, 26), x.way(0, 18), x.way(0, 63));
            Due.is(x.told(2), 3);
        });
    }

    private static void odds() {
        String sentence = "ODDS: that a CELL, each as likely, has a BRAND: a fraction in lowest terms (0 is 0 by 1).";
        Sentence.holds("Terms 3", sentence, "0 is 0 by 1, without FENCES and with one that has none INSIDE", () -> {
            WalkFences x = new WalkFences();
            Due.is(x.odds(0), 0);
            Due.is(x.odds(1), 1);
            Given.posts(x, x.fence(0, 0), 19, 26, 28);
            Due.is(x.odds(0), 0);
            Due.is(x.odds(1), 1);
        });
        Sentence.holds("Terms 3", sentence, "1, 2, 3 and 4 by 64, in lowest terms", () -> {
            WalkFences x = new WalkFences();
            int[] cells = {9, 14, 49, 54};
            int[] above = {1, 1, 3, 1};
            int[] below = {64, 32, 64, 16};
            for (int i = 0; i < 4; i++) {
                Given.diamond(x, 60, 0, cells[i]);
                Due.is(x.odds(0), above[i]);
                Due.is(x.odds(1), below[i]);
            }
        });
        Sentence.holds("Terms 3", sentence, "as many as there can be: 20 by 64", () -> {
            WalkFences x = new WalkFences();
            for (int centre : new int[] {18, 21, 42, 45}) {
                Given.posts(x, x.fence(60, 0), centre - 16, centre - 9, centre - 7, centre - 2, centre + 2, centre + 7, centre + 9,
                        centre + 16);
            }
            Due.is(x.odds(0), 5);
            Due.is(x.odds(1), 16);
        });
        Sentence.holds("Terms 3", sentence, "a CELL INSIDE of four counts once", () -> {
            WalkFences x = new WalkFences();
            for (int i = 0; i < 4; i++) {
                Given.diamond(x, 60, 0, 27);
            }
            Due.is(x.odds(0), 1);
            Due.is(x.odds(1), 64);
        });
        Sentence.holds("promise 27", "ODDS: part 0 above, 1 below the line.", "at first", () -> {
            Due.is(new WalkFences().odds(0), 0);
            Due.is(new WalkFences().odds(1), 1);
        });
        Sentence.holds("promise 27", "BEYOND.", "part that is neither 0 nor 1", () -> {
            WalkFences x = new WalkFences();
            for (int wrong : Given.outside(0, 1)) {
                Due.is(x.odds(wrong), Due.BEYOND);
            }
        });
    }

    private static void fitsTerms() {
        String sentence = "FITS: a SHEET tells the CELLS of all POSTS of a FENCE: behind how many times (0 .. 60) that POSTS MOVE first that is so.";
        Sentence.holds("Terms 3", sentence, "0 times, once, and 60 times", () -> {
            WalkFences x = Given.walking(0, 1, 9, 17);
            Given.sheet(x, 0, 8, 9, 17);
            Due.is(x.fits(0, 0), 0);
            Given.sheet(x, 0, 8, 10, 18);
            Due.is(x.fits(0, 0), 1);
            WalkFences y = Given.spiral(3);
            Given.sheet(y, 0, 8, 44);
            Due.is(y.fits(0, 0), 60);
        });
        Sentence.holds("Terms 3", sentence, "the first time, of several", () -> {
            // It stays in CELL 7 from the sixth move on.
            WalkFences x = Given.walking(0, 1, 1);
            Given.sheet(x, 0, 8, 7);
            Due.is(x.fits(0, 0), 6);
        });
        Sentence.holds("Terms 3", sentence, "all POSTS: the last of 8, too", () -> {
            WalkFences x = Given.walking(60, 0, 1, 2, 3, 4, 5, 6, 7, 8);
            Given.sheet(x, 0, 8, 1, 2, 3, 4, 5, 6, 7, 8);
            Due.is(x.fits(0, 0), 0);
            x.put(0, 7, 9);
            Due.is(x.fits(0, 0), Due.NONE);
            Given.sheet(x, 0, 8, 9, 2, 3, 4, 5, 6, 7, 8);
            Due.is(x.fits(0, 0), Due.NONE);
        });
    }

    private static void fitsPromise() {
        String sentence = "FITS, by a SHEET (as many numbers as the FENCE has POSTS).";
        Sentence.holds("promise 28", sentence, "no number and no POST", () -> {
            WalkFences x = Given.fences(1);
            x.sheet(0, 8, 0);
            Due.is(x.fits(0, 0), 0);
        });
        Sentence.holds("promise 28", sentence, "a number less, a number more, though the others are right", () -> {
            WalkFences x = Given.walking(60, 0, 9, 0);
            Given.sheet(x, 0, 8, 9);
            Given.sheet(x, 1, 8, 9, 0, 0);
            Given.sheet(x, 2, 8, 9, 0);
            x.sheet(3, 8, 0);
            Due.each(Due.NONE, x.fits(0, 0), x.fits(1, 0), x.fits(3, 0));
            Due.is(x.fits(2, 0), 0);
            x.sheet(2, 8, 24);
            Due.is(x.fits(2, 0), Due.NONE);
        });
        Sentence.holds("promise 28", sentence, "the first SHEET and the last, the first FENCE and the last, numbers that are no CELLS", () -> {
            WalkFences x = Given.fences(3);
            Given.posts(x, x.fence(60, 0), 0);
            Given.sheet(x, 0, 8, 0);
            Given.sheet(x, 3, 32, 0);
            x.sheet(1, 8, 0);
            Due.each(0, x.fits(0, 3), x.fits(3, 3), x.fits(1, 0));
            x.put(3, 0, 256);
            Due.is(x.fits(3, 3), Due.NONE);
            x.put(3, 0, -1);
            Due.is(x.fits(3, 3), Due.NONE);
        });
        Sentence.holds("promise 28", "BEYOND.", "no such SHEET", () -> {
            WalkFences x = Given.fences(1);
            for (int wrong : Given.outside(0, 3)) {
                Due.is(x.fits(wrong, 0), Due.BEYOND);
            }
        });
        Sentence.holds("promise 28", "BEYOND.", "no such FENCE", () -> {
            WalkFences x = Given.fences(1);
            x.sheet(0, 8, 0);
            for (int wrong : Given.outside(0, 0)) {
                Due.is(x.fits(0, wrong), Due.BEYOND);
            }
        });
        Sentence.holds("promise 28", "NONE: the SHEET is missing; not by 60.", "missing at first, and again", () -> {
            WalkFences x = Given.fences(1);
            Due.each(Due.NONE, x.fits(0, 0), x.fits(3, 0));
            x.sheet(3, 8, 0);
            x.sheet(3, 0, 0);
            Due.is(x.fits(3, 0), Due.NONE);
        });
        Sentence.holds("promise 28", "NONE: the SHEET is missing; not by 60.", "at the 61st, and never", () -> {
            WalkFences x = Given.spiral(2);
            Given.sheet(x, 0, 8, 44);
            Due.is(x.fits(0, 0), Due.NONE);
            // SALT keeps it from CELL 8 for ever.
            x.put(0, 0, 8);
            Due.is(x.fits(0, 0), Due.NONE);
        });
        Sentence.holds("promise 28", "BEYOND. NONE: the SHEET is missing; not by 60.", "with a SHEET missing BEYOND is asked first", () -> {
            WalkFences x = Given.fences(1);
            Due.each(Due.BEYOND, x.fits(0, 1), x.fits(0, -1), x.fits(4, 0));
            Due.is(x.told(2), 0);
        });
    }
}
