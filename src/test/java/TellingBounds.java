/** Boundary cases of promises 31 to 41: SHEETS, images, what is told. */
final class TellingBounds {
    private static final int MIN = Integer.MIN_VALUE;
    private static final int MAX = Integer.MAX_VALUE;

    private TellingBounds() {
    }

    static void all() {
        sheet();
        sheetRefused();
        put();
        putRefused();
        move();
        moveRefused();
        sets();
        setsRefused();
        judge();
        image();
        restore();
        tell();
        check();
        count();
        told();
    }

    private static int[] zeroes(int n) {
        return new int[n];
    }

    /** The numbers of a SHEET, of which none may be below 0 or above 63, are these; needs a FENCE. */
    private static void isRow(WalkFences x, int sheet, int... numbers) {
        for (int i = 0; i < numbers.length; i++) {
            // One number at a time comes to a SHEET of one, whose number becomes a CELL.
            x.sheet(3, 8, 1);
            Due.is(x.move(sheet, i, 3, 0, 1), 1);
            Due.is(x.sets(0, 3), 1);
            Due.is(x.at(0, 0), numbers[i]);
        }
        Due.is(x.move(sheet, numbers.length, 3, 0, 1), Due.BEYOND);
    }

    private static void sheet() {
        String sentence = "A SHEET has n numbers, all 0, of so many bits (8, 16, 32; 0: it is missing, n doesn't matter): 1.";
        Sentence.holds("promise 31", sentence, "no number, and 24", () -> {
            WalkFences x = Given.fences(1);
            Due.is(x.sheet(0, 8, 0), 1);
            Due.is(x.put(0, 0, 1), Due.BEYOND);
            Due.is(x.sets(0, 0), 0);
            Due.is(x.sheet(0, 8, 24), 1);
            isRow(x, 0, zeroes(24));
        });
        Sentence.holds("promise 31", sentence, "all 0 again, of as many, of fewer, of more", () -> {
            for (int n : new int[] {3, 2, 5}) {
                WalkFences x = Given.fences(1);
                Given.sheet(x, 0, 8, 7, 8, 9);
                x.sheet(0, 8, n);
                isRow(x, 0, zeroes(n));
            }
        });
        Sentence.holds("promise 31", sentence, "0 bits: missing again, whatever n, and then it has to begin anew", () -> {
            WalkFences x = Given.fences(1);
            for (int n : new int[] {0, 1, 24, 25, -1, MIN, MAX}) {
                Given.sheet(x, 0, 8, 7);
                Due.is(x.sheet(0, 0, n), 1);
                Due.is(x.put(0, 0, 7), Due.NONE);
            }
            Due.is(x.sheet(3, 0, -1), 1);
            x.sheet(0, 8, 1);
            isRow(x, 0, 0);
            Due.each(0, x.told(3), x.told(1) - 1);
        });
    }

    private static void sheetRefused() {
        Sentence.holds("promise 31", "BEYOND.", "no such SHEET", () -> {
            WalkFences x = new WalkFences();
            for (int wrong : Given.outside(0, 3)) {
                Due.each(Due.BEYOND, x.sheet(wrong, 8, 1), x.sheet(wrong, 0, 0));
            }
        });
        Sentence.holds("promise 31", "BEYOND.", "other bits: the SHEET stays", () -> {
            WalkFences x = Given.fences(1);
            Given.sheet(x, 0, 8, 7);
            for (int bits : new int[] {-8, -1, 1, 7, 9, 15, 17, 24, 31, 33, 64, MIN, MAX}) {
                Due.is(x.sheet(0, bits, 1), Due.BEYOND);
            }
            isRow(x, 0, 7);
        });
        Sentence.holds("promise 31", "BEYOND.", "more than 24 numbers: the SHEET stays", () -> {
            WalkFences x = Given.fences(1);
            Given.sheet(x, 0, 8, 7);
            Due.each(Due.BEYOND, x.sheet(0, 8, 25), x.sheet(0, 16, 25), x.sheet(0, 32, MAX));
            isRow(x, 0, 7);
        });
        Sentence.holds("promise 31", "STATE: n is below 0 (ahead of BEYOND of n).", "-1 and the least int: the SHEET stays", () -> {
            WalkFences x = Given.fences(1);
            Given.sheet(x, 0, 8, 7);
            Due.each(Due.STATE, x.sheet(0, 8, -1), x.sheet(0, 16, MIN), x.sheet(2, 32, -25));
            isRow(x, 0, 7);
            Due.is(x.put(2, 0, 0), Due.NONE);
            Due.is(x.told(3), 3);
        });
        Sentence.holds("promise 31", "BEYOND. STATE: n is below 0 (ahead of BEYOND of n).", "BEYOND of the SHEET and of the bits is asked first", () -> {
            WalkFences x = new WalkFences();
            Due.each(Due.BEYOND, x.sheet(-1, 8, -1), x.sheet(4, 8, -1), x.sheet(0, 7, -1), x.sheet(0, 33, MIN));
            Due.is(x.told(3), 0);
        });
    }

    private static void put() {
        String sentence = "Number i of a SHEET becomes v (its lowest bits): 1.";
        Sentence.holds("promise 32", sentence, "the first number and the 24th", () -> {
            WalkFences x = Given.fences(1);
            x.sheet(0, 16, 24);
            Due.each(1, x.put(0, 0, 63), x.put(0, 23, 5));
            x.sheet(3, 16, 1);
            x.move(0, 23, 3, 0, 1);
            x.sets(0, 3);
            Due.is(x.at(0, 0), 5);
            x.sets(0, 0);
            Due.is(x.at(0, 0), 63);
        });
        Sentence.holds("promise 32", sentence, "8 bits: 256 is 0, 255 is -1, 319 is 63", () -> {
            WalkFences x = Given.fences(1);
            cellIs(x, 8, 256, 0);
            cellIs(x, 8, 319, 63);
            cellIs(x, 8, -256 + 7, 7);
            cellIs(x, 8, MIN, 0);
            cellIs(x, 8, 64, -1);
            cellIs(x, 8, 127, -1);
            cellIs(x, 8, 128, -1);
            cellIs(x, 8, MAX, -1);
            noneIs(8, 255, true);
            noneIs(8, -1, true);
            noneIs(8, 511, true);
            noneIs(8, 127, false);
        });
        Sentence.holds("promise 32", sentence, "16 bits: 65536 is 0, 65535 is -1, 256 is no CELL", () -> {
            WalkFences x = Given.fences(1);
            cellIs(x, 16, 65536, 0);
            cellIs(x, 16, 65536 + 63, 63);
            cellIs(x, 16, -65536 + 7, 7);
            cellIs(x, 16, MIN, 0);
            cellIs(x, 16, 256, -1);
            cellIs(x, 16, 32767, -1);
            cellIs(x, 16, 32768, -1);
            noneIs(16, 65535, true);
            noneIs(16, -1, true);
            noneIs(16, 255, false);
        });
        Sentence.holds("promise 32", sentence, "32 bits: all of them", () -> {
            WalkFences x = Given.fences(1);
            cellIs(x, 32, 63, 63);
            cellIs(x, 32, 65536, -1);
            cellIs(x, 32, MIN, -1);
            cellIs(x, 32, MAX, -1);
            noneIs(32, -1, true);
            noneIs(32, 65535, false);
            noneIs(32, 255, false);
        });
    }

    /** Which CELL a number of so many bits is, when v was put there; -1 for none. */
    private static void cellIs(WalkFences x, int bits, int v, int cell) {
        Given.sheet(x, 0, bits, v);
        Due.is(x.sets(0, 0), cell < 0 ? 0 : 1);
        Due.is(x.at(0, 0), cell < 0 ? Due.BEYOND : cell);
    }

    /** Whether a number of so many bits is -1 (no BRAND), when v was put there. */
    private static void noneIs(int bits, int v, boolean is) {
        WalkFences x = Given.cattle(0);
        Given.sheet(x, 0, bits, v);
        Due.is(x.judge(0), is ? 1 : 0);
    }

    private static void putRefused() {
        Sentence.holds("promise 32", "BEYOND: no such SHEET.", "-1, 4, and further out", () -> {
            WalkFences x = new WalkFences();
            for (int wrong : Given.outside(0, 3)) {
                Due.is(x.put(wrong, 0, 0), Due.BEYOND);
            }
        });
        Sentence.holds("promise 32", "NONE: it is missing.", "at first, and again, ahead of BEYOND of the number", () -> {
            WalkFences x = new WalkFences();
            Due.each(Due.NONE, x.put(0, 0, 0), x.put(3, -1, 0), x.put(3, 24, 0));
            x.sheet(0, 8, 1);
            x.sheet(0, 0, 1);
            Due.is(x.put(0, 0, 0), Due.NONE);
        });
        Sentence.holds("promise 32", "BEYOND: no such number.", "-1, as many as there are, of no numbers any", () -> {
            WalkFences x = Given.fences(1);
            Given.sheet(x, 0, 8, 7, 8);
            for (int wrong : Given.outside(0, 1)) {
                Due.is(x.put(0, wrong, 9), Due.BEYOND);
            }
            isRow(x, 0, 7, 8);
            x.sheet(1, 8, 0);
            Due.is(x.put(1, 0, 9), Due.BEYOND);
            x.sheet(1, 8, 24);
            Due.is(x.put(1, 24, 9), Due.BEYOND);
        });
    }

    private static void move() {
        String sentence = "n numbers of a SHEET, from number i on, come to another one (or the same), from its number j on, as they all were: n.";
        Sentence.holds("promise 33", sentence, "none: from the first place, and from behind the last", () -> {
            WalkFences x = Given.fences(1);
            Given.sheet(x, 0, 8, 1, 2);
            Given.sheet(x, 1, 8, 3);
            x.sheet(2, 8, 0);
            Due.each(0, x.move(0, 0, 1, 0, 0), x.move(0, 2, 1, 1, 0), x.move(2, 0, 2, 0, 0), x.move(2, 0, 0, 2, 0));
            isRow(x, 0, 1, 2);
            isRow(x, 1, 3);
        });
        Sentence.holds("promise 33", sentence, "all 24, to another and to the same", () -> {
            WalkFences x = Given.fences(1);
            x.sheet(0, 8, 24);
            x.sheet(1, 8, 24);
            int[] due = zeroes(24);
            for (int i = 0; i < 24; i++) {
                due[i] = 63 - i;
                x.put(0, i, due[i]);
            }
            Due.is(x.move(0, 0, 1, 0, 24), 24);
            Due.is(x.move(1, 0, 1, 0, 24), 24);
            isRow(x, 1, due);
        });
        Sentence.holds("promise 33", sentence, "of the same one, a place on and a place back, as they all were", () -> {
            WalkFences x = Given.fences(1);
            Given.sheet(x, 0, 32, 1, 2, 3, 4, 5);
            Due.is(x.move(0, 0, 0, 1, 4), 4);
            Given.sheet(x, 1, 8, 0);
            x.sets(0, 0);
            Due.is(x.land(0, 0), Given.bits(1, 2, 3, 4));
            Due.each(1, x.at(0, 0), x.at(0, 1));
            Due.is(x.at(0, 4), 4);
            Due.is(x.move(0, 2, 0, 0, 3), 3);
            x.sets(0, 0);
            int[] due = {2, 3, 4, 3, 4};
            for (int i = 0; i < 5; i++) {
                Due.is(x.at(0, i), due[i]);
            }
        });
        Sentence.holds("promise 33", sentence, "the last number to the first, of a longer one and a shorter", () -> {
            WalkFences x = Given.fences(1);
            Given.sheet(x, 0, 8, 1, 2, 3, 4, 5);
            Given.sheet(x, 1, 8, 6);
            Due.is(x.move(0, 4, 1, 0, 1), 1);
            isRow(x, 1, 5);
            Given.sheet(x, 1, 8, 7);
            Due.is(x.move(1, 0, 0, 4, 1), 1);
            isRow(x, 0, 1, 2, 3, 4, 7);
        });
    }

    private static void moveRefused() {
        Sentence.holds("promise 33", "BEYOND: no such SHEET.", "the one, the other, though the other one is missing", () -> {
            WalkFences x = new WalkFences();
            x.sheet(0, 8, 1);
            for (int wrong : Given.outside(0, 3)) {
                Due.each(Due.BEYOND, x.move(wrong, 0, 0, 0, 1), x.move(0, 0, wrong, 0, 1), x.move(wrong, 0, 1, 0, 1), x.move(1, 0, wrong, 0, 1));
            }
        });
        Sentence.holds("promise 33", "NONE: one is missing.", "the one, the other, both, ahead of BEYOND of the numbers", () -> {
            WalkFences x = new WalkFences();
            x.sheet(0, 8, 1);
            Due.each(Due.NONE, x.move(1, 0, 0, 0, 1), x.move(0, 0, 1, 0, 1), x.move(1, 0, 2, 0, 1), x.move(1, 0, 1, 0, 0));
            Due.each(Due.NONE, x.move(1, -1, 0, 0, 1), x.move(0, 0, 1, 0, -1), x.move(0, 9, 1, 9, 9));
        });
        Sentence.holds("promise 33", "KIND: they are of unlike bits.", "each two of 8, 16 and 32, of no numbers, too, ahead of BEYOND of them", () -> {
            WalkFences x = new WalkFences();
            x.sheet(0, 8, 1);
            x.sheet(1, 16, 1);
            x.sheet(2, 32, 1);
            for (int one = 0; one <= 2; one++) {
                for (int other = 0; other <= 2; other++) {
                    Due.is(x.move(one, 0, other, 0, 1), one == other ? 1 : Due.KIND);
                }
            }
            Due.each(Due.KIND, x.move(0, 0, 1, 0, 0), x.move(0, -1, 1, 0, 1), x.move(0, 0, 2, 0, 2), x.move(1, 0, 2, 0, -1));
        });
        String beyond = "BEYOND: n, i, or j is below 0, or they don't stand there.";
        Sentence.holds("promise 33", beyond, "n, i, j below 0", () -> {
            WalkFences x = Given.fences(1);
            Given.sheet(x, 0, 8, 1, 2, 3);
            Given.sheet(x, 1, 8, 4, 5, 6);
            for (int wrong : new int[] {-1, MIN}) {
                Due.each(Due.BEYOND, x.move(0, wrong, 1, 0, 1), x.move(0, 0, 1, wrong, 1), x.move(0, 0, 1, 0, wrong), x.move(0, wrong, 1, 0, 0),
                        x.move(0, 0, 1, wrong, 0), x.move(0, 1, 0, 1, wrong));
            }
            isRow(x, 0, 1, 2, 3);
            isRow(x, 1, 4, 5, 6);
        });
        Sentence.holds("promise 33", beyond, "one number too many, of the one, of the other, and sums that would wrap", () -> {
            WalkFences x = Given.fences(1);
            Given.sheet(x, 0, 8, 1, 2, 3, 4);
            Given.sheet(x, 1, 8, 5, 6);
            Due.each(Due.BEYOND, x.move(0, 3, 1, 0, 2), x.move(0, 4, 1, 0, 1), x.move(0, 5, 1, 0, 0), x.move(0, 0, 0, 0, 5));
            Due.each(Due.BEYOND, x.move(0, 0, 1, 1, 2), x.move(0, 0, 1, 2, 1), x.move(0, 0, 1, 3, 0), x.move(0, 0, 1, 0, 3));
            Due.each(Due.BEYOND, x.move(0, MAX, 1, 0, 1), x.move(0, 0, 1, MAX, 1), x.move(0, 1, 1, 1, MAX), x.move(0, MAX, 1, MAX, MAX));
            isRow(x, 0, 1, 2, 3, 4);
            isRow(x, 1, 5, 6);
        });
    }

    private static void sets() {
        String sentence = "Numbers of a SHEET become CELLS of POSTS 0, 1, .. of a FENCE, which has just these then: how many, "
                + "up to the first that is not 0 to 63 (no ERROR then), 8 at most.";
        Sentence.holds("promise 34", sentence, "none of no numbers, and of a first one that is -1 or 64", () -> {
            WalkFences x = Given.walking(0, 0, 9, 10);
            x.sheet(0, 8, 0);
            Given.sheet(x, 1, 8, -1, 5);
            Given.sheet(x, 2, 8, 64, 5);
            for (int sheet = 0; sheet <= 2; sheet++) {
                x.post(0, 9);
                Due.is(x.sets(0, sheet), 0);
                Due.is(x.fenceIs(0, 3), 0);
                Due.is(x.at(0, 0), Due.BEYOND);
            }
        });
        Sentence.holds("promise 34", sentence, "0 and 63 are CELLS; up to the first that is none, no ERROR", () -> {
            WalkFences x = Given.fences(1);
            Given.sheet(x, 0, 16, 0, 63, 63, 64, 1);
            Due.is(x.sets(0, 0), 3);
            x.put(0, 3, -1);
            Due.is(x.sets(0, 0), 3);
            Due.is(x.at(0, 0), 0);
            Due.each(63, x.at(0, 1), x.at(0, 2));
            Due.is(x.at(0, 3), Due.BEYOND);
            Due.is(x.told(1), 1);
        });
        Sentence.holds("promise 34", sentence, "8 at most: of 8, of 9, of 24, whatever the ninth is", () -> {
            WalkFences x = Given.fences(1);
            Given.sheet(x, 0, 8, 1, 2, 3, 4, 5, 6, 7, 8);
            Due.is(x.sets(0, 0), 8);
            Given.sheet(x, 0, 8, 9, 2, 3, 4, 5, 6, 7, 8, -1);
            Due.is(x.sets(0, 0), 8);
            Due.is(x.at(0, 0), 9);
            x.sheet(0, 8, 24);
            Due.is(x.sets(0, 0), 8);
            Due.is(x.land(0, 0), 1);
            Due.is(x.post(0, 5), Due.FULL);
        });
        Sentence.holds("promise 34", sentence, "just these: fewer than it had, more, and no other FENCE's", () -> {
            WalkFences x = Given.walking(0, 0, 1, 2, 3);
            Given.posts(x, x.fence(0, 0), 5);
            Given.sheet(x, 0, 8, 7);
            Due.is(x.sets(0, 0), 1);
            Due.is(x.land(0, 0), 1L << 7);
            Given.sheet(x, 0, 8, 7, 8, 9);
            Due.is(x.sets(1, 0), 3);
            Due.is(x.land(1, 0), Given.bits(7, 8, 9));
            Due.is(x.land(0, 0), 1L << 7);
        });
    }

    private static void setsRefused() {
        Sentence.holds("promise 34", "BEYOND: no such FENCE, SHEET.", "the one, the other, and a missing SHEET", () -> {
            WalkFences x = Given.walking(0, 0, 9);
            x.sheet(0, 8, 1);
            for (int wrong : Given.outside(0, 0)) {
                Due.each(Due.BEYOND, x.sets(wrong, 0), x.sets(wrong, 1));
            }
            for (int wrong : Given.outside(0, 3)) {
                Due.is(x.sets(0, wrong), Due.BEYOND);
            }
            Due.is(x.land(0, 0), 1L << 9);
        });
        Sentence.holds("promise 34", "NONE: it is missing.", "the POSTS stay", () -> {
            WalkFences x = Given.walking(0, 0, 9);
            x.sheet(1, 8, 1);
            x.sheet(1, 0, 0);
            Due.each(Due.NONE, x.sets(0, 0), x.sets(0, 1), x.sets(0, 3));
            Due.is(x.land(0, 0), 1L << 9);
        });
    }

    private static void judge() {
        String sentence = "Numbers of a SHEET are BRANDS (-1: none) of the CELLS of CATTLE 0, 1, ..: how many are right, from the first on.";
        Sentence.holds("promise 35", sentence, "no numbers, no CATTLE, neither", () -> {
            WalkFences x = new WalkFences();
            x.sheet(0, 8, 0);
            Given.sheet(x, 1, 8, -1, -1);
            Due.each(0, x.judge(0), x.judge(1));
            x.cow(9);
            Due.is(x.judge(0), 0);
        });
        Sentence.holds("promise 35", sentence, "fewer numbers than CATTLE, as many, more", () -> {
            WalkFences x = Given.cattle(0, 0, 0, 0, 0, 0);
            Given.sheet(x, 0, 8, -1, -1);
            Given.sheet(x, 1, 8, -1, -1, -1, -1, -1, -1);
            Given.sheet(x, 2, 8, -1, -1, -1, -1, -1, -1, -1, -1);
            Due.is(x.judge(0), 2);
            Due.each(6, x.judge(1), x.judge(2));
            // No number is right by being 0 where there is none.
            Given.diamond(x, 60, 0, 9);
            x.drive(2, 9);
            Due.is(x.judge(0), 2);
        });
        Sentence.holds("promise 35", sentence, "the first is wrong, one between, the last", () -> {
            WalkFences x = Given.cattle(0, 0, 0);
            Given.sheet(x, 0, 8, 0, -1, -1);
            Due.is(x.judge(0), 0);
            Given.sheet(x, 0, 8, -1, 0, -1);
            Due.is(x.judge(0), 1);
            Given.sheet(x, 0, 8, -1, -1, 0);
            Due.is(x.judge(0), 2);
        });
        Sentence.holds("promise 35", sentence, "the first BRAND, the last, and none; of 8 bits -1 is 255", () -> {
            WalkFences x = Given.cattle(9, 54, 0);
            Given.diamond(x, 60, 0, 9);
            x.fence(0, 0);
            x.fence(0, 0);
            Given.diamond(x, 60, 0, 54);
            Given.sheet(x, 0, 8, 0, 3, 255);
            Given.sheet(x, 1, 16, 0, 3, 255);
            Given.sheet(x, 2, 32, 0, 3, -1);
            Due.each(3, x.judge(0), x.judge(2));
            Due.is(x.judge(1), 2);
        });
        Sentence.holds("promise 35", "BEYOND: no such SHEET.", "-1, 4, and further out", () -> {
            WalkFences x = Given.cattle(0);
            for (int wrong : Given.outside(0, 3)) {
                Due.is(x.judge(wrong), Due.BEYOND);
            }
        });
        Sentence.holds("promise 35", "NONE: it is missing.", "at first, and again", () -> {
            WalkFences x = Given.cattle(0);
            Due.each(Due.NONE, x.judge(0), x.judge(3));
            x.sheet(3, 8, 1);
            x.sheet(3, 0, 0);
            Due.is(x.judge(3), Due.NONE);
        });
    }

    private static void image() {
        String sentence = "All (but SHEETS, THE TRACE, what told() tells, and how often this was done) is kept as an IMAGE, "
                + "in place of one ahead: how often that was done.";
        Sentence.holds("promise 36", sentence, "of an empty object: all goes back to nothing", () -> {
            WalkFences x = new WalkFences();
            Due.is(x.image(), 1);
            x.fence(69, 3);
            x.cow(9);
            x.lay(0, 9, 1);
            x.lay(1, 9, 1);
            Given.text(x, 0, "7");
            Given.text(x, 1, "7");
            Given.tape(x, "7");
            x.tell(7);
            x.seed(7);
            x.dawns(7);
            Due.is(x.restore(), 0);
            Due.each(0, x.count(0), x.count(1), x.count(2), x.count(3), x.count(4), x.count(5), x.count(6), x.untell(0), x.untell(1));
            Due.is(x.count(8), 1);
            // What comes now has nothing of what was there.
            Due.each(0, x.fence(0, 0), x.cow(5), x.fenceIs(0, 3), x.fenceIs(0, 4), x.cowIs(0, 1));
        });
        Sentence.holds("promise 36", sentence, "of a full object: all comes back", () -> {
            WalkFences x = full();
            x.image();
            WalkFences y = full();
            y.image();
            x.cut(3);
            x.become(3, 0);
            x.turn(3, 1);
            x.drive(5, 0);
            x.lay(0, 1, 0);
            x.lay(1, 1, 0);
            x.text(0);
            Given.text(x, 1, "3");
            Given.tape(x, "3");
            x.check();
            x.tell(3);
            x.seed(0);
            x.dawns(2);
            Due.is(x.restore(), 3);
            isAlike(x, y);
        });
        Sentence.holds("promise 36", sentence, "in place of one ahead, and how often goes on behind restore()", () -> {
            WalkFences x = new WalkFences();
            x.dawns(1);
            Due.is(x.image(), 1);
            x.dawns(1);
            Due.is(x.image(), 2);
            x.dawns(1);
            Due.is(x.restore(), 2);
            Due.is(x.image(), 3);
        });
        Sentence.holds("promise 36", sentence, "but not SHEETS, THE TRACE, what told() tells", () -> {
            WalkFences x = Given.fences(1);
            Given.sheet(x, 0, 8, 5);
            x.voice(0, 0, 1);
            x.image();
            Given.sheet(x, 0, 8, 6, 7);
            x.sheet(1, 8, 1);
            x.voice(0, 1, 1);
            x.body(9);
            x.restore();
            Due.is(x.sets(0, 0), 2);
            Due.is(x.land(0, 0), Given.bits(6, 7));
            Due.is(x.put(1, 0, 0), 1);
            Due.is(x.count(7), 2);
            Due.is(x.told(2), 1);
        });
    }

    /** An object with as much of all as can be. */
    private static WalkFences full() {
        WalkFences x = Given.cattle(0, 1, 2, 3, 4, 63);
        for (int i = 0; i < 4; i++) {
            Given.posts(x, x.fence(69 - 20 * i, 3 - i), 20, 27, 29, 34, 38, 43, 45, 52);
        }
        for (int cell = 0; cell < 64; cell++) {
            x.lay(0, cell, 1);
            x.lay(1, cell, 1);
        }
        Given.text(x, 0, "900+a+p+k");
        Given.text(x, 1, "c=63|7");
        Given.tape(x, "7+7+7+7+7+7+7+7+7+7+7+7+7+7+7+7+7+7+7+7+7+7+7+7+7+7+7+7+7+77");
        x.seed(-7);
        x.dawns(3);
        // The first four are right, and the fifth has no FENCE.
        for (int i = 0; i < 24; i++) {
            x.tell(i < 4 ? x.fenceIs(i, 4) : 0);
        }
        return x;
    }

    private static void isAlike(WalkFences x, WalkFences y) {
        for (int what = 0; what <= 8; what++) {
            Due.is(x.count(what), y.count(what));
        }
        for (int fence = 0; fence < 4; fence++) {
            for (int what = 0; what <= 6; what++) {
                Due.is(x.fenceIs(fence, what), y.fenceIs(fence, what));
            }
            Due.is(x.land(fence, 0), y.land(fence, 0));
        }
        for (int cow = 0; cow < 6; cow++) {
            Due.is(x.cowIs(cow, 0), y.cowIs(cow, 0));
            Due.is(x.cowIs(cow, 1), y.cowIs(cow, 1));
        }
        Due.each(1, x.lay(0, 1, 1), x.lay(1, 1, 1), x.law(1, 63, 0, 0));
        Due.is(x.text(0), 1);
        Due.is(x.law(0, 0, 0, 0), 29 * 7 + 77);
        Due.is(x.check(), 5);
    }

    private static void restore() {
        Sentence.holds("promise 37", "All is as the IMAGE has it, which stays: DAWN.", "once more, with nothing between, and with much", () -> {
            WalkFences x = Given.walking(0, 1, 9);
            x.dawns(2);
            x.image();
            Due.each(2, x.restore(), x.restore());
            x.fence(0, 0);
            x.dawns(3);
            x.cut(0);
            Due.is(x.restore(), 2);
            Due.is(x.count(0), 1);
            Due.is(x.at(0, 0), 11);
            Due.is(x.fenceIs(0, 4), 2);
        });
        Sentence.holds("promise 37", "All is as the IMAGE has it, which stays: DAWN.", "from DAWN 0 to 9999 and back", () -> {
            WalkFences x = new WalkFences();
            x.image();
            Given.dawnIs(x, 9999);
            Due.is(x.restore(), 0);
            Due.is(x.dawns(60), 60);
            WalkFences y = new WalkFences();
            Given.dawnIs(y, 9999);
            y.image();
            Due.is(y.restore(), 9999);
            Due.is(y.dawns(1), Due.STATE);
        });
        Sentence.holds("promise 37", "NONE: there is none.", "at first, and nothing is changed", () -> {
            WalkFences x = Given.walking(0, 0, 9);
            Due.each(Due.NONE, x.restore(), x.restore());
            Due.is(x.count(0), 1);
            Due.is(x.at(0, 0), 9);
            Due.is(x.image(), 1);
            Due.is(x.restore(), 0);
        });
    }

    private static void tell() {
        Sentence.holds("promise 38", "One more number waits: how many.", "from none to 24, any number", () -> {
            WalkFences x = new WalkFences();
            for (int many = 1; many <= 24; many++) {
                Due.is(x.tell(many % 2 == 0 ? MIN : MAX), many);
            }
            Due.is(x.count(6), 24);
        });
        Sentence.holds("promise 38", "FULL: 24 wait.", "a 25th, until none waits", () -> {
            WalkFences x = Given.fences(4);
            for (int i = 0; i < 24; i++) {
                x.tell(0);
            }
            Due.each(Due.FULL, x.tell(0), x.tell(1));
            Due.is(x.count(6), 24);
            // The fifth has no FENCE.
            Due.is(x.check(), 5);
            Due.is(x.tell(0), 1);
        });
    }

    private static void check() {
        String sentence = "The numbers that wait (none do then) are how RICH FENCES 0, 1, .. are: 0; else 1 and the place (from 0) of the first that "
                + "isn't so (or for which there is no FENCE).";
        Sentence.holds("promise 39", sentence, "none wait: 0, with FENCES and without", () -> {
            Due.is(new WalkFences().check(), 0);
            Due.is(Given.fences(4).check(), 0);
        });
        Sentence.holds("promise 39", sentence, "none wait then: of right ones and of wrong", () -> {
            WalkFences x = Given.fences(1);
            x.tell(0);
            Due.is(x.check(), 0);
            Due.each(0, x.count(6), x.check());
            x.tell(1);
            Due.is(x.check(), 1);
            Due.each(0, x.count(6), x.check());
        });
        Sentence.holds("promise 39", sentence, "fewer than there are FENCES, as many, and one more", () -> {
            WalkFences x = Given.fences(4);
            for (int many = 1; many <= 5; many++) {
                for (int i = 0; i < many; i++) {
                    x.tell(0);
                }
                Due.is(x.check(), many <= 4 ? 0 : 5);
            }
            WalkFences y = new WalkFences();
            y.tell(0);
            Due.is(y.check(), 1);
        });
        Sentence.holds("promise 39", sentence, "the first is wrong, the last, two of them; one below, one above", () -> {
            WalkFences x = Given.fences(3);
            Given.posts(x, x.fence(60, 0), 9);
            x.dawns(2);
            int[][] told = {{1, 0, 0, 2}, {0, 0, 0, 1}, {0, 0, 0, 3}, {0, -1, 0, 3}, {0, 0, 0, 2}};
            int[] due = {1, 4, 4, 2, 0};
            for (int row = 0; row < 5; row++) {
                for (int number : told[row]) {
                    x.tell(number);
                }
                Due.is(x.check(), due[row]);
            }
        });
        Sentence.holds("promise 39", sentence, "of 24 that wait the first wrong one; as RICH as can be", () -> {
            WalkFences x = Given.fences(1);
            Given.text(x, 0, "999");
            x.dawns(60);
            x.dawns(60);
            x.tell(99999);
            Due.is(x.check(), 0);
            x.tell(99999);
            for (int i = 1; i < 24; i++) {
                x.tell(0);
            }
            Due.is(x.check(), 2);
        });
    }

    private static void count() {
        String sentence = "0 FENCES, 1 CATTLE, 2 DAWN, 3 how many CELLS have SALT, 4 WATER, 5 bytes of THE TAPE, 6 numbers that wait, "
                + "7 BODIES in THE TRACE, 8 z (any number).";
        Sentence.holds("promise 40", sentence, "as few as can be", () -> {
            WalkFences x = new WalkFences();
            Due.each(0, x.count(0), x.count(1), x.count(2), x.count(3), x.count(4), x.count(5), x.count(6), x.count(7));
        });
        Sentence.holds("promise 40", sentence, "as many as can be", () -> {
            WalkFences x = full();
            int[] due = {4, 6, 3, 64, 64, 60, 24};
            for (int what = 0; what <= 6; what++) {
                Due.is(x.count(what), due[what]);
            }
            Given.dawnIs(x, 9999);
            Due.is(x.count(2), 9999);
            x.become(0, 49);
            x.voice(0, 3, 1);
            Due.is(x.count(7), 6);
        });
        Sentence.holds("promise 40", sentence, "z: the least int, the most, and what looks like an ERROR", () -> {
            WalkFences x = new WalkFences();
            for (int z : new int[] {MIN, MAX, -1000000001, 0}) {
                x.seed(z);
                Due.is(x.count(8), z);
            }
            Due.is(x.told(1), 0);
        });
        Sentence.holds("promise 40", "BEYOND.", "what below 0 or above 8", () -> {
            WalkFences x = new WalkFences();
            for (int wrong : Given.outside(0, 8)) {
                Due.is(x.count(wrong), Due.BEYOND);
            }
            Due.is(x.told(1), 4);
        });
    }

    private static void told() {
        String sentence = "How many acts have answered an ERROR LOW - k (k 1 .. 6); BEYOND: another k (counted, too).";
        Sentence.holds("promise 41", sentence, "none at first, of each", () -> {
            WalkFences x = new WalkFences();
            for (int k = 1; k <= 6; k++) {
                Due.is(x.told(k), 0);
            }
        });
        Sentence.holds("promise 41", sentence, "another k: 0, 7 and further out, each counted", () -> {
            WalkFences x = new WalkFences();
            for (int wrong : Given.outside(1, 6)) {
                Due.is(x.told(wrong), Due.BEYOND);
            }
            Due.is(x.told(1), 4);
            Due.each(0, x.told(2), x.told(6));
        });
        Sentence.holds("promise 41", sentence, "each ERROR by its own number", () -> {
            for (int k = 1; k <= 6; k++) {
                WalkFences x = Given.fences(4);
                int answer = k == 1 ? x.at(0, 0) : k == 2 ? x.restore() : k == 3 ? x.cut(0) : k == 4 ? x.fence(0, 0) : k == 5 ? x.as(0, 1)
                        : x.voice(0, 3, 0);
                Due.is(answer, -1000000000 - k);
                for (int other = 1; other <= 6; other++) {
                    Due.is(x.told(other), other == k ? 1 : 0);
                }
            }
        });
        Sentence.holds("promise 41", sentence, "an ERROR that is a long counts, a FAULT does not", () -> {
            WalkFences x = new WalkFences();
            x.land(0, 0);
            Due.is(x.told(1), 1);
            x.text(0);
            Due.is(x.told(1), 1);
        });
    }
}
