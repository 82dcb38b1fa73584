/** Boundary cases of promises 1 to 14: a new object, fences, cattle. */
final class FenceBounds {
    private FenceBounds() {
    }

    static void all() {
        newObject();
        fence();
        post();
        fenceIs();
        atAndHeads();
        become();
        as();
        turn();
        cut();
        lay();
        cow();
        cowIs();
        drive();
    }

    private static void newObject() {
        String sentence = "All as at first; no FENCES, no CATTLE, no TEXTS.";
        Sentence.holds("promise 1", sentence, "nothing is there, and z is 1", () -> {
            WalkFences x = new WalkFences();
            for (int what = 0; what < 8; what++) {
                Due.is(x.count(what), 0);
            }
            Due.is(x.count(8), 1);
            Due.each(0, x.told(1), x.told(2), x.told(3), x.told(4), x.told(5), x.told(6));
        });
        Sentence.holds("promise 1", sentence, "no FENCES: FENCE 0 is BEYOND", () -> {
            WalkFences x = new WalkFences();
            Due.each(Due.BEYOND, x.post(0, 0), x.fenceIs(0, 0), x.at(0, 0), x.heads(0, 0), x.become(0, 0), x.as(0, 0),
                    x.turn(0, 0), x.cut(0), x.land(0, 0), x.then(0, 0, 0), x.salts(0, 9, 0, -1), x.voice(0, 0, 0));
            x.sheet(0, 8, 0);
            Due.each(Due.BEYOND, x.fits(0, 0), x.sets(0, 0));
            Due.is(x.fence(0, 0), 0);
        });
        Sentence.holds("promise 1", sentence, "no CATTLE: the first of them is BEYOND", () -> {
            WalkFences x = new WalkFences();
            Due.each(Due.BEYOND, x.cowIs(0, 0), x.drive(0, 0), x.way(0, 0));
            Due.is(x.cow(0), 0);
        });
        Sentence.holds("promise 1", sentence, "no TEXTS: there is none to untell", () -> {
            WalkFences x = new WalkFences();
            Due.each(0, x.untell(0), x.untell(1));
            Due.is(x.law(0, 2, 3, 0), 5);
            Due.is(x.law(1, 0, 3, 0), 4);
        });
        Sentence.holds("promise 1", sentence, "no SHEETS, no IMAGE, no TRACE, no CELL with SALT or WATER", () -> {
            WalkFences x = new WalkFences();
            Due.each(Due.NONE, x.judge(0), x.judge(1), x.judge(2), x.judge(3), x.restore(), x.body(0));
            for (int cell = 0; cell < 64; cell++) {
                Due.each(0, x.lay(0, cell, 1), x.lay(1, cell, 1));
            }
        });
        Sentence.holds("promise 1", sentence, "a second object has nothing of the first", () -> {
            WalkFences x = Given.fences(4);
            x.cow(5);
            x.lay(0, 5, 1);
            x.seed(7);
            Given.text(x, 0, "7");
            x.image();
            WalkFences y = new WalkFences();
            Due.each(0, y.count(0), y.count(1), y.count(3), y.untell(0));
            Due.is(y.count(8), 1);
            Due.is(y.restore(), Due.NONE);
            Due.is(x.told(2), 0);
        });
    }

    private static void fence() {
        Sentence.holds("promise 2", "One more FENCE (km: 10 times the KIND, and m): the number.",
                "the least km and the most, and where one KIND ends and the next begins", () -> {
            WalkFences x = new WalkFences();
            int[] kms = {0, 9, 10, 69};
            for (int i = 0; i < 4; i++) {
                Due.is(x.fence(kms[i], i), i);
                Due.is(x.fenceIs(i, 0), kms[i] / 10);
                Due.is(x.fenceIs(i, 1), kms[i] % 10);
                Due.is(x.fenceIs(i, 2), i);
            }
        });
        Sentence.holds("promise 2", "BEYOND.", "km below 0 or above 69", () -> {
            WalkFences x = new WalkFences();
            for (int wrong : Given.outside(0, 69)) {
                Due.is(x.fence(wrong, 0), Due.BEYOND);
            }
            Due.is(x.count(0), 0);
        });
        Sentence.holds("promise 2", "BEYOND.", "a HEADING that is no WAY", () -> {
            WalkFences x = new WalkFences();
            for (int wrong : Given.outside(0, 3)) {
                Due.is(x.fence(0, wrong), Due.BEYOND);
            }
            Due.is(x.count(0), 0);
        });
        Sentence.holds("promise 2", "FULL.", "a fifth FENCE", () -> {
            WalkFences x = Given.fences(3);
            Due.is(x.fence(69, 3), 3);
            Due.each(Due.FULL, x.fence(0, 0), x.fence(69, 3));
            Due.is(x.count(0), 4);
        });
        Sentence.holds("promise 2", "BEYOND. FULL.", "with 4 FENCES BEYOND is asked first", () -> {
            WalkFences x = Given.fences(4);
            Due.each(Due.BEYOND, x.fence(-1, 0), x.fence(70, 0), x.fence(0, -1), x.fence(0, 4));
            Due.is(x.fence(0, 0), Due.FULL);
        });
    }

    private static void post() {
        Sentence.holds("promise 3", "One more POST of a FENCE: how many it has.", "from none to 8, in the first CELL and the last", () -> {
            WalkFences x = Given.fences(4);
            for (int many = 1; many <= 8; many++) {
                Due.is(x.post(3, many % 2 * 63), many);
            }
            Due.is(x.at(3, 0), 63);
            Due.is(x.at(3, 7), 0);
            Due.is(x.fenceIs(2, 3), 0);
        });
        Sentence.holds("promise 3", "BEYOND.", "no such FENCE", () -> {
            WalkFences x = Given.fences(2);
            for (int wrong : Given.outside(0, 1)) {
                Due.is(x.post(wrong, 0), Due.BEYOND);
            }
        });
        Sentence.holds("promise 3", "BEYOND.", "no such CELL", () -> {
            WalkFences x = Given.fences(1);
            for (int wrong : Given.outside(0, 63)) {
                Due.is(x.post(0, wrong), Due.BEYOND);
            }
            Due.is(x.fenceIs(0, 3), 0);
        });
        Sentence.holds("promise 3", "FULL.", "a ninth POST, until one is cut off", () -> {
            WalkFences x = Given.walking(0, 0, 1, 2, 3, 4, 5, 6, 7, 8);
            Due.is(x.post(0, 9), Due.FULL);
            Due.is(x.fenceIs(0, 3), 8);
            Due.is(x.at(0, 7), 8);
            x.cut(0);
            Due.is(x.post(0, 9), 8);
            Due.is(x.post(0, 9), Due.FULL);
        });
        Sentence.holds("promise 3", "BEYOND. FULL.", "with 8 POSTS BEYOND is asked first", () -> {
            WalkFences x = Given.walking(0, 0, 1, 2, 3, 4, 5, 6, 7, 8);
            Due.each(Due.BEYOND, x.post(0, 64), x.post(0, -1), x.post(1, 0));
        });
    }

    private static void fenceIs() {
        String sentence = "Of a FENCE: 0 KIND, 1 m, 2 HEADING, 3 how many POSTS, 4 RICH, 5 ACRES, 6 GRAZE.";
        Sentence.holds("promise 4", sentence, "all of them 0", () -> {
            WalkFences x = Given.fences(1);
            for (int what = 0; what <= 6; what++) {
                Due.is(x.fenceIs(0, what), 0);
            }
        });
        Sentence.holds("promise 4", sentence, "all of them as much as can be", () -> {
            WalkFences x = Given.walking(69, 3, 20, 27, 29, 34, 38, 43, 45, 52);
            // SALT left of each POST holds them all.
            for (int cell : new int[] {19, 26, 28, 33, 37, 42, 44, 51}) {
                x.lay(0, cell, 1);
            }
            Given.text(x, 0, "1000");
            x.dawns(60);
            x.dawns(60);
            int[] due = {6, 9, 3, 8, 99999, 5, 999};
            for (int what = 0; what <= 6; what++) {
                Due.is(x.fenceIs(0, what), due[what]);
            }
        });
        Sentence.holds("promise 4", "BEYOND.", "no such FENCE", () -> {
            WalkFences x = Given.fences(3);
            for (int wrong : Given.outside(0, 2)) {
                for (int what = 0; what <= 6; what++) {
                    Due.is(x.fenceIs(wrong, what), Due.BEYOND);
                }
            }
        });
        Sentence.holds("promise 4", "BEYOND.", "what is below 0 or above 6", () -> {
            WalkFences x = Given.fences(1);
            for (int wrong : Given.outside(0, 6)) {
                Due.is(x.fenceIs(0, wrong), Due.BEYOND);
            }
        });
    }

    private static void atAndHeads() {
        Sentence.holds("promise 5", "The CELL of a POST.", "the first of 8 and the last, in the last CELL and the first", () -> {
            WalkFences x = Given.walking(0, 0, 63, 1, 2, 3, 4, 5, 6, 0);
            Due.is(x.at(0, 0), 63);
            Due.is(x.at(0, 7), 0);
        });
        Sentence.holds("promise 6", "Where a POST HEADS now (-1: nowhere).", "the first of 8 and the last; nowhere is no ERROR", () -> {
            WalkFences x = Given.walking(50, 3, 0, 0, 0, 0, 0, 0, 0, 0);
            Due.is(x.heads(0, 0), -1);
            Due.is(x.heads(0, 7), 3);
            x.dawns(1);
            Due.is(x.heads(0, 7), -1);
            Due.is(x.told(1), 0);
        });
        for (int promise = 5; promise <= 6; promise++) {
            boolean at = promise == 5;
            Sentence.holds("promise " + promise, "BEYOND.", "no such FENCE", () -> {
                WalkFences x = Given.walking(0, 0, 9);
                for (int wrong : Given.outside(0, 0)) {
                    Due.is(at ? x.at(wrong, 0) : x.heads(wrong, 0), Due.BEYOND);
                }
            });
            Sentence.holds("promise " + promise, "BEYOND.", "no such POST", () -> {
                WalkFences x = Given.walking(0, 0, 9, 10);
                for (int wrong : Given.outside(0, 1)) {
                    Due.is(at ? x.at(0, wrong) : x.heads(0, wrong), Due.BEYOND);
                }
            });
            Sentence.holds("promise " + promise, "BEYOND.", "a FENCE without POSTS, a POST that was cut off, a ninth one", () -> {
                WalkFences x = Given.walking(0, 0, 9);
                x.cut(0);
                Due.is(at ? x.at(0, 0) : x.heads(0, 0), Due.BEYOND);
                Given.posts(x, 0, 1, 2, 3, 4, 5, 6, 7, 8);
                Due.is(at ? x.at(0, 8) : x.heads(0, 8), Due.BEYOND);
            });
        }
    }

    private static void become() {
        String sentence = "A FENCE becomes one of a KIND, with m (km): the KIND that it was.";
        Sentence.holds("promise 7", sentence, "the least km, the most, and the KIND that it is", () -> {
            WalkFences x = Given.fences(1);
            Due.is(x.become(0, 69), 0);
            Due.is(x.become(0, 60), 6);
            Due.is(x.fenceIs(0, 0), 6);
            Due.is(x.fenceIs(0, 1), 0);
            Due.is(x.become(0, 0), 6);
            Due.is(x.become(0, 9), 0);
            Due.is(x.fenceIs(0, 1), 9);
        });
        Sentence.holds("promise 7", sentence, "HEADING, POSTS and RICH stay", () -> {
            WalkFences x = Given.walking(0, 3, 8, 16);
            x.dawns(1);
            x.become(0, 42);
            Due.is(x.fenceIs(0, 2), 3);
            Due.is(x.land(0, 0), Given.bits(8, 16));
            Due.is(x.fenceIs(0, 4), 2);
        });
        Sentence.holds("promise 7", "BEYOND.", "no such FENCE", () -> {
            WalkFences x = Given.fences(2);
            for (int wrong : Given.outside(0, 1)) {
                Due.is(x.become(wrong, 69), Due.BEYOND);
            }
        });
        Sentence.holds("promise 7", "BEYOND.", "km below 0 or above 69", () -> {
            WalkFences x = Given.walking(37, 0);
            for (int wrong : Given.outside(0, 69)) {
                Due.is(x.become(0, wrong), Due.BEYOND);
            }
            Due.is(x.fenceIs(0, 0), 3);
            Due.is(x.fenceIs(0, 1), 7);
        });
    }

    private static void as() {
        Sentence.holds("promise 8", "A FENCE as one of a KIND: m.", "m 0 and 9, as its own KIND and as one two above", () -> {
            WalkFences x = Given.walking(50, 0);
            Due.each(0, x.as(0, 5), x.as(0, 2), x.as(0, 0));
            x.become(0, 49);
            Due.each(9, x.as(0, 4), x.as(0, 1), x.as(0, 0));
        });
        Sentence.holds("promise 8", "BEYOND.", "no such FENCE", () -> {
            WalkFences x = Given.fences(2);
            for (int wrong : Given.outside(0, 1)) {
                Due.is(x.as(wrong, 0), Due.BEYOND);
            }
        });
        Sentence.holds("promise 8", "BEYOND.", "no such KIND", () -> {
            WalkFences x = Given.walking(69, 0);
            for (int wrong : Given.outside(0, 6)) {
                Due.is(x.as(0, wrong), Due.BEYOND);
            }
        });
        Sentence.holds("promise 8", "KIND: it isn't of that KIND, nor of one under it.", "KINDS under its own, and beside it", () -> {
            WalkFences x = Given.fences(1);
            Due.each(Due.KIND, x.as(0, 1), x.as(0, 2), x.as(0, 3), x.as(0, 4), x.as(0, 5), x.as(0, 6));
            x.become(0, 10);
            Due.each(Due.KIND, x.as(0, 2), x.as(0, 3), x.as(0, 4), x.as(0, 5), x.as(0, 6));
            x.become(0, 40);
            Due.each(Due.KIND, x.as(0, 2), x.as(0, 3), x.as(0, 5), x.as(0, 6));
            x.become(0, 60);
            Due.each(Due.KIND, x.as(0, 1), x.as(0, 2), x.as(0, 3), x.as(0, 4), x.as(0, 5));
            Due.is(x.told(5), 20);
        });
        Sentence.holds("promise 8", "BEYOND. KIND: it isn't of that KIND, nor of one under it.", "BEYOND is asked first", () -> {
            WalkFences x = Given.fences(1);
            Due.each(Due.BEYOND, x.as(1, 6), x.as(-1, 6), x.as(0, 7));
            Due.is(x.told(5), 0);
        });
    }

    private static void turn() {
        Sentence.holds("promise 9", "HEADING of a FENCE becomes so: what it was.", "the first WAY, the last, and the one that it has", () -> {
            WalkFences x = Given.fences(1);
            Due.is(x.turn(0, 3), 0);
            Due.is(x.turn(0, 3), 3);
            Due.is(x.turn(0, 0), 3);
            Due.is(x.fenceIs(0, 2), 0);
        });
        Sentence.holds("promise 9", "BEYOND.", "no such FENCE", () -> {
            WalkFences x = Given.fences(4);
            for (int wrong : Given.outside(0, 3)) {
                Due.is(x.turn(wrong, 0), Due.BEYOND);
            }
        });
        Sentence.holds("promise 9", "BEYOND.", "no such WAY", () -> {
            WalkFences x = Given.walking(0, 2);
            for (int wrong : Given.outside(0, 3)) {
                Due.is(x.turn(0, wrong), Due.BEYOND);
            }
            Due.is(x.fenceIs(0, 2), 2);
        });
    }

    private static void cut() {
        Sentence.holds("promise 10", "The last POST of a FENCE is cut off: how many it has.", "from 8 to none", () -> {
            WalkFences x = Given.walking(0, 0, 1, 2, 3, 4, 5, 6, 7, 8);
            for (int many = 7; many >= 0; many--) {
                Due.is(x.cut(0), many);
                Due.is(x.at(0, many), Due.BEYOND);
            }
            Due.is(x.land(0, 0), 0);
        });
        Sentence.holds("promise 10", "BEYOND.", "no such FENCE", () -> {
            WalkFences x = Given.walking(0, 0, 9);
            for (int wrong : Given.outside(0, 0)) {
                Due.is(x.cut(wrong), Due.BEYOND);
            }
            Due.is(x.fenceIs(0, 3), 1);
        });
        Sentence.holds("promise 10", "STATE: it has none.", "at first, and when the last one is cut off", () -> {
            WalkFences x = Given.fences(1);
            Due.is(x.cut(0), Due.STATE);
            x.post(0, 5);
            Due.is(x.cut(0), 0);
            Due.each(Due.STATE, x.cut(0), x.cut(0));
            Due.is(x.fenceIs(0, 3), 0);
            Due.is(x.told(3), 3);
        });
    }

    private static void lay() {
        String sentence = "A CELL has SALT (what 0), WATER (1), if is is 1; none, if it is 0: what it was.";
        Sentence.holds("promise 11", sentence, "the first CELL and the last; what is there again, and what is not taken away", () -> {
            WalkFences x = new WalkFences();
            for (int what = 0; what <= 1; what++) {
                for (int cell = 0; cell <= 63; cell += 63) {
                    Due.each(0, x.lay(what, cell, 0), x.lay(what, cell, 1));
                    Due.each(1, x.lay(what, cell, 1), x.lay(what, cell, 0));
                    Due.each(0, x.lay(what, cell, 0), x.count(3 + what));
                }
            }
        });
        Sentence.holds("promise 11", sentence, "all 64 CELLS, with both", () -> {
            WalkFences x = new WalkFences();
            for (int cell = 0; cell < 64; cell++) {
                Due.each(0, x.lay(0, cell, 1), x.lay(1, cell, 1));
            }
            Due.each(64, x.count(3), x.count(4));
            Due.is(x.lay(0, 31, 0), 1);
            Due.is(x.count(3), 63);
            Due.is(x.count(4), 64);
        });
        Sentence.holds("promise 11", "BEYOND.", "what that is neither 0 nor 1", () -> {
            WalkFences x = new WalkFences();
            for (int wrong : Given.outside(0, 1)) {
                Due.is(x.lay(wrong, 0, 1), Due.BEYOND);
            }
            Due.each(0, x.count(3), x.count(4));
        });
        Sentence.holds("promise 11", "BEYOND.", "no such CELL", () -> {
            WalkFences x = new WalkFences();
            for (int wrong : Given.outside(0, 63)) {
                Due.each(Due.BEYOND, x.lay(0, wrong, 1), x.lay(1, wrong, 1));
            }
            Due.each(0, x.count(3), x.count(4));
        });
        Sentence.holds("promise 11", "BEYOND.", "is that is neither 0 nor 1", () -> {
            WalkFences x = new WalkFences();
            x.lay(0, 5, 1);
            for (int wrong : Given.outside(0, 1)) {
                Due.each(Due.BEYOND, x.lay(0, 5, wrong), x.lay(1, 5, wrong));
            }
            Due.is(x.count(3), 1);
            Due.is(x.count(4), 0);
        });
    }

    private static void cow() {
        Sentence.holds("promise 12", "One of the CATTLE more: the number.", "six of them, in the first CELL and the last", () -> {
            WalkFences x = new WalkFences();
            for (int i = 0; i < 6; i++) {
                Due.is(x.cow(i % 2 * 63), i);
            }
            Due.is(x.cowIs(0, 0), 0);
            Due.is(x.cowIs(5, 0), 63);
        });
        Sentence.holds("promise 12", "BEYOND.", "no such CELL", () -> {
            WalkFences x = new WalkFences();
            for (int wrong : Given.outside(0, 63)) {
                Due.is(x.cow(wrong), Due.BEYOND);
            }
            Due.is(x.count(1), 0);
        });
        Sentence.holds("promise 12", "FULL.", "a seventh", () -> {
            WalkFences x = Given.cattle(1, 2, 3, 4, 5, 6);
            Due.is(x.cow(7), Due.FULL);
            Due.is(x.count(1), 6);
            Due.is(x.cowIs(5, 0), 6);
        });
        Sentence.holds("promise 12", "BEYOND. FULL.", "with six BEYOND is asked first", () -> {
            WalkFences x = Given.cattle(1, 2, 3, 4, 5, 6);
            Due.each(Due.BEYOND, x.cow(64), x.cow(-1));
        });
    }

    private static void cowIs() {
        String sentence = "Of one of the CATTLE: 0 CELL, 1 FAT, 2 BRAND (-1: none).";
        Sentence.holds("promise 13", sentence, "no BRAND without FENCES, on the rim, and in the CELL of a POST", () -> {
            WalkFences x = Given.cattle(18, 0, 17);
            Due.each(-1, x.cowIs(0, 2), x.cowIs(1, 2), x.cowIs(2, 2));
            Given.diamond(x, 60, 0, 18);
            Due.is(x.cowIs(0, 2), 0);
            Due.each(-1, x.cowIs(1, 2), x.cowIs(2, 2));
            Due.is(x.told(1), 0);
        });
        Sentence.holds("promise 13", sentence, "the first CELL, the last; FAT 0, and as FAT as can be", () -> {
            WalkFences x = Given.cattle(63, 0);
            Due.is(x.cowIs(0, 1), 0);
            Given.text(x, 1, "9*(c=63)");
            x.dawns(60);
            x.dawns(60);
            Due.is(x.cowIs(0, 0), 63);
            Due.is(x.cowIs(0, 1), 999);
            Due.each(0, x.cowIs(1, 0), x.cowIs(1, 1));
        });
        Sentence.holds("promise 13", "BEYOND.", "no such one", () -> {
            WalkFences x = Given.cattle(1, 2);
            for (int wrong : Given.outside(0, 1)) {
                Due.each(Due.BEYOND, x.cowIs(wrong, 0), x.cowIs(wrong, 1), x.cowIs(wrong, 2));
            }
        });
        Sentence.holds("promise 13", "BEYOND.", "what is below 0 or above 2", () -> {
            WalkFences x = Given.cattle(1);
            for (int wrong : Given.outside(0, 2)) {
                Due.is(x.cowIs(0, wrong), Due.BEYOND);
            }
        });
    }

    private static void drive() {
        Sentence.holds("promise 14", "One of the CATTLE is in a CELL: where it was.", "the first CELL, the last, and the one where it is", () -> {
            WalkFences x = Given.cattle(1, 2, 3, 4, 5, 6);
            Due.is(x.drive(5, 63), 6);
            Due.is(x.drive(5, 63), 63);
            Due.is(x.drive(5, 0), 63);
            Due.is(x.drive(0, 0), 1);
            Due.each(0, x.cowIs(5, 0), x.cowIs(0, 0));
            Due.is(x.cowIs(1, 0), 2);
        });
        Sentence.holds("promise 14", "One of the CATTLE is in a CELL: where it was.", "a CELL with SALT, WATER and a POST is one, too", () -> {
            WalkFences x = Given.walking(0, 0, 9);
            x.cow(0);
            x.lay(0, 9, 1);
            x.lay(1, 9, 1);
            Due.is(x.drive(0, 9), 0);
            Due.is(x.cowIs(0, 0), 9);
        });
        Sentence.holds("promise 14", "BEYOND.", "no such one", () -> {
            WalkFences x = Given.cattle(1, 2);
            for (int wrong : Given.outside(0, 1)) {
                Due.is(x.drive(wrong, 0), Due.BEYOND);
            }
        });
        Sentence.holds("promise 14", "BEYOND.", "no such CELL", () -> {
            WalkFences x = Given.cattle(7);
            for (int wrong : Given.outside(0, 63)) {
                Due.is(x.drive(0, wrong), Due.BEYOND);
            }
            Due.is(x.cowIs(0, 0), 7);
        });
    }
}
