/** Boundary cases of what an object is good for, of ERRORS, and of section 1 of Terms. */
final class TermsBounds {
    private static final int MIN = Integer.MIN_VALUE;
    private static final int MAX = Integer.MAX_VALUE;

    /** A FENCE of each KIND that HEADS its HEADING at DAWN 0 (a STILE: its POST 1). */
    private static final int[] WALKING_KMS = {0, 10, 20, 30, 40, 50, 69};

    private TermsBounds() {
    }

    static void all() {
        calls();
        errors();
        quotients();
        cells();
        ways();
        saltAndWater();
        dawn();
        fences();
        heads();
        overWater();
        postsMove();
        inside();
        brands();
        cattle();
        aDawn();
        byDraws();
        draws();
    }

    private static void calls() {
        String sentence = "An object is used for at most 512 calls after it has been made; what later calls answer is free.";
        Sentence.holds("What it is", sentence, "the 512th call still answers", () -> {
            WalkFences x = new WalkFences();
            for (int call = 1; call <= 512; call++) {
                Due.is(x.image(), call);
            }
        });
        Sentence.holds("What it is", sentence, "511 calls that were refused, and one that tells how many", () -> {
            WalkFences x = new WalkFences();
            for (int call = 1; call <= 511; call++) {
                Due.is(x.land(-call, call), Due.BEYOND);
            }
            Due.is(x.told(1), 511);
        });
    }

    private static void errors() {
        String numbers = "ERRORS are answers below -1000000000: LOW is -1000000000; LOW - 1 BEYOND, LOW - 2 NONE, LOW - 3 STATE, "
                + "LOW - 4 FULL, LOW - 5 KIND, LOW - 6 PARTED (in longs, too).";
        Sentence.holds("Terms", numbers, "the number of each", () -> {
            WalkFences x = Given.fences(4);
            Due.is(x.at(0, 0), -1000000001);
            Due.is(x.restore(), -1000000002);
            Due.is(x.cut(0), -1000000003);
            Due.is(x.fence(0, 0), -1000000004);
            Due.is(x.as(0, 1), -1000000005);
            Due.is(x.voice(0, 3, 0), -1000000006);
        });
        Sentence.holds("Terms", numbers, "a long that is an ERROR", () ->
                Due.is(new WalkFences().land(0, 0), -1000000001L));
        Sentence.holds("Terms", numbers, "a number that looks like an ERROR, and is no answer of one, is not told", () -> {
            WalkFences x = Given.fences(1);
            for (int number = -1000000000; number >= -1000000006; number--) {
                x.seed(number);
                Due.each(number, x.count(8), x.seed(number), x.voice(0, 0, number));
            }
            Due.each(0, x.told(1), x.told(2), x.told(3), x.told(4), x.told(5), x.told(6));
        });
    }

    private static void quotients() {
        Sentence.holds("Terms", "Quotients are cut toward 0.", "in TEXTS, below 0", () -> {
            WalkFences x = new WalkFences();
            Given.text(x, 1, "c/b");
            Due.each(-3, x.law(1, -7, 2, 0), x.law(1, 7, -2, 0));
            Due.each(3, x.law(1, 7, 2, 0), x.law(1, -7, -2, 0));
            Due.each(0, x.law(1, -1, 2, 0), x.law(1, 1, -2, 0));
        });
        Sentence.holds("Terms", "Quotients are cut toward 0.", "in VOICES, below 0", () -> {
            WalkFences x = Given.walking(2, 0);
            Due.is(x.voice(0, 3, -7), -3);
            Due.is(x.voice(0, 3, -1), 0);
            x.become(0, 30);
            Due.is(x.voice(0, 2, -7), -6);
            Due.is(x.voice(0, 2, -1), 0);
        });
        Sentence.holds("Terms", "Quotients are cut toward 0.", "where TURNERS HEAD, a DAWN ahead of the next quotient", () -> {
            WalkFences x = Given.walking(32, 0, 27);
            Given.dawnIs(x, 2);
            Due.is(x.heads(0, 0), 0);
            Given.dawnIs(x, 3);
            Due.is(x.heads(0, 0), 1);
        });
    }

    private static void cells() {
        String sentence = "CELLS 0 .. 63: 8 times the row (0 .. 7, from the top), and the place in it (0 .. 7).";
        Sentence.holds("Terms 1", sentence, "0 and 63 are CELLS for each act", () -> {
            WalkFences x = Given.fences(1);
            for (int cell = 0; cell <= 63; cell += 63) {
                x.post(0, cell);
                x.cow(cell);
                Due.is(x.drive(0, cell), 0);
                Due.is(x.way(0, cell), 0);
                Due.each(Due.NONE, x.first(cell, 0), x.salts(0, cell, 0, -1));
                Due.each(0, x.lay(0, cell, 0), x.lay(1, cell, 0));
            }
            Due.is(x.land(0, 0), 1L << 63 | 1);
            Due.is(x.told(1), 0);
        });
        Sentence.holds("Terms 1", sentence, "-1 and 64 are none for any act", () -> {
            WalkFences x = Given.fences(1);
            x.cow(0);
            for (int wrong : Given.outside(0, 63)) {
                Due.each(Due.BEYOND, x.post(0, wrong), x.cow(wrong), x.drive(0, wrong), x.way(0, wrong), x.first(wrong, 0),
                        x.salts(0, wrong, 0, -1), x.lay(0, wrong, 0), x.lay(1, wrong, 0));
            }
        });
        Sentence.holds("Terms 1", sentence, "the last place of a row and the first of the next are not beside one another", () -> {
            WalkFences x = Given.walking(0, 1, 7, 15, 55);
            x.dawns(1);
            Due.is(x.land(0, 0), Given.bits(7, 15, 55));
            x.turn(0, 3);
            x.cut(0);
            x.post(0, 8);
            x.dawns(1);
            Due.is(x.land(0, 0), Given.bits(6, 8, 14));
            WalkFences y = Given.cattle(7, 8);
            Due.is(y.way(0, 8), 8);
            Due.is(y.way(1, 7), 8);
        });
    }

    private static void ways() {
        String sentence = "WAYS: 0 up, 1 right, 2 down, 3 left.";
        Sentence.holds("Terms 1", sentence, "each of the four", () -> {
            int[] to = {19, 28, 35, 26};
            for (int way = 0; way <= 3; way++) {
                WalkFences x = Given.walking(0, way, 27);
                x.dawns(1);
                Due.is(x.at(0, 0), to[way]);
            }
        });
        Sentence.holds("Terms 1", sentence, "-1 and 4 are none", () -> {
            WalkFences x = Given.fences(1);
            for (int wrong : Given.outside(0, 3)) {
                Due.each(Due.BEYOND, x.fence(0, wrong), x.turn(0, wrong));
            }
        });
    }

    private static void saltAndWater() {
        String sentence = "Each CELL has SALT or not, WATER or not (neither, at first).";
        Sentence.holds("Terms 1", sentence, "neither at first, and either without the other", () -> {
            WalkFences x = new WalkFences();
            for (int cell = 0; cell < 64; cell++) {
                Due.each(0, x.lay(0, cell, cell % 2), x.lay(1, cell, 1 - cell % 2));
            }
            for (int cell = 0; cell < 64; cell++) {
                Due.is(x.lay(0, cell, 0), cell % 2);
                Due.is(x.lay(1, cell, 0), 1 - cell % 2);
            }
        });
    }

    private static void dawn() {
        String sentence = "DAWN (0 .. 9999; 0 at first).";
        Sentence.holds("Terms 1", sentence, "0 at first", () -> Due.is(new WalkFences().count(2), 0));
        Sentence.holds("Terms 1", sentence, "9999 is come to, and not gone beyond", () -> {
            WalkFences x = new WalkFences();
            Given.dawnIs(x, 9999);
            Due.is(x.count(2), 9999);
            Due.each(Due.STATE, x.dawns(1), x.loose(1), x.dawns(60), x.loose(20));
            Due.is(x.count(2), 9999);
        });
    }

    private static void fences() {
        String kinds = "of KINDS: 0 FENCE, 1 NORTHERN under FENCE, 2 LAGGING under FENCE, 3 TURNER under FENCE, "
                + "4 POLAR under NORTHERN, 5 STILE under LAGGING, 6 HEDGE under FENCE";
        Sentence.holds("Terms 1", "FENCES 0, 1, .. (at most 4)", "none at first, four, and not five", () -> {
            WalkFences x = new WalkFences();
            Due.is(x.count(0), 0);
            for (int i = 0; i < 4; i++) {
                Due.is(x.fence(0, 0), i);
            }
            Due.is(x.fence(0, 0), Due.FULL);
            Due.is(x.fenceIs(3, 0), 0);
            Due.is(x.fenceIs(4, 0), Due.BEYOND);
        });
        Sentence.holds("Terms 1", kinds, "each KIND is itself and those above, as far as FENCE", () -> {
            int[] above = {0, 0, 0, 0, 1, 2, 0};
            WalkFences x = Given.fences(1);
            for (int kind = 0; kind <= 6; kind++) {
                x.become(0, 10 * kind + 8);
                for (int asked = 0; asked <= 6; asked++) {
                    boolean is = asked == kind || asked == above[kind] || asked == 0;
                    Due.is(x.as(0, asked), is ? 8 : Due.KIND);
                }
            }
            Due.each(Due.BEYOND, x.become(0, -10), x.become(0, 70), x.as(0, -1), x.as(0, 7));
        });
        Sentence.holds("Terms 1", "each with a number m (0 .. 9), a HEADING (a WAY)", "m from 0 to 9 of each KIND", () -> {
            WalkFences x = Given.fences(1);
            for (int km = 0; km <= 69; km++) {
                x.become(0, km);
                Due.is(x.fenceIs(0, 0), km / 10);
                Due.is(x.fenceIs(0, 1), km % 10);
                Due.is(x.as(0, 0), km % 10);
            }
        });
        Sentence.holds("Terms 1", "POSTS 0, 1, .. (at most 8; none at first), each in a CELL (several may be in one)",
                "none at first, eight in one CELL, and not nine", () -> {
            WalkFences x = Given.fences(1);
            Due.is(x.fenceIs(0, 3), 0);
            Given.posts(x, 0, 5, 5, 5, 5, 5, 5, 5, 5);
            Due.is(x.post(0, 5), Due.FULL);
            Due.is(x.fenceIs(0, 3), 8);
            Due.is(x.land(0, 0), 1L << 5);
        });
        Sentence.holds("Terms 1", "RICH (0 .. 99999; 0 at first)", "0 at first, and as rich as can be", () -> {
            WalkFences x = Given.fences(1);
            Due.is(x.fenceIs(0, 4), 0);
            Given.text(x, 0, "999");
            x.dawns(60);
            x.dawns(60);
            Due.is(x.fenceIs(0, 4), 99999);
        });
    }

    /** Where POSTS 0 and 1 of a FENCE with HEADING 3 HEAD at a DAWN. */
    private static void headsAt(int km, int dawn, int post0, int post1) {
        WalkFences x = Given.walking(km, 3, 0, 0);
        Given.dawnIs(x, dawn);
        Due.is(x.heads(0, 0), post0);
        Due.is(x.heads(0, 1), post1);
    }

    private static void heads() {
        Sentence.holds("Terms 1", "HEADS (of a POST, at a DAWN x): FENCE, NORTHERN: HEADING.", "at DAWNS 0, 1, 9999, whatever m", () -> {
            for (int dawn : new int[] {0, 1, 9999}) {
                headsAt(9, dawn, 3, 3);
                headsAt(19, dawn, 3, 3);
            }
        });
        Sentence.holds("Terms 1", "LAGGING: HEADING; nowhere, if x is odd.", "at DAWNS 0, 1, 9998, 9999", () -> {
            headsAt(20, 0, 3, 3);
            headsAt(20, 1, -1, -1);
            headsAt(29, 9998, 3, 3);
            headsAt(29, 9999, -1, -1);
        });
        String turner = "TURNER: HEADING and (x by (m and 1), cut), the rest of that by 4.";
        Sentence.holds("Terms 1", turner, "m 0: another WAY each DAWN, and round again", () -> {
            int[] due = {3, 0, 1, 2, 3};
            for (int dawn = 0; dawn <= 4; dawn++) {
                headsAt(30, dawn, due[dawn], due[dawn]);
            }
            headsAt(30, 9999, 2, 2);
        });
        Sentence.holds("Terms 1", turner, "m 9: the DAWNS ahead of a turn and of it", () -> {
            headsAt(39, 9, 3, 3);
            headsAt(39, 10, 0, 0);
            headsAt(39, 19, 0, 0);
            headsAt(39, 20, 1, 1);
            headsAt(39, 39, 2, 2);
            headsAt(39, 40, 3, 3);
            headsAt(39, 9999, 2, 2);
        });
        Sentence.holds("Terms 1", "POLAR: HEADING; the other WAY round (0 and 2, 1 and 3), if the rest of x by 4 is 2 or 3.",
                "each rest by 4, and each WAY", () -> {
            headsAt(40, 0, 3, 3);
            headsAt(40, 1, 3, 3);
            headsAt(49, 2, 1, 1);
            headsAt(49, 3, 1, 1);
            headsAt(49, 4, 3, 3);
            headsAt(49, 9999, 1, 1);
            for (int way = 0; way <= 3; way++) {
                WalkFences x = Given.walking(40, way, 9);
                x.dawns(2);
                Due.is(x.heads(0, 0), way < 2 ? way + 2 : way - 2);
            }
        });
        Sentence.holds("Terms 1", "STILE: POST 0 nowhere; others as LAGGING.", "POST 0 and POST 1, at DAWNS 0, 1, 9998, 9999", () -> {
            headsAt(50, 0, -1, 3);
            headsAt(50, 1, -1, -1);
            headsAt(59, 9998, -1, 3);
            headsAt(59, 9999, -1, -1);
        });
        Sentence.holds("Terms 1", "HEDGE: nowhere; HEADING, if m is 9.", "m 0, 8 and 9", () -> {
            headsAt(60, 0, -1, -1);
            headsAt(68, 0, -1, -1);
            headsAt(69, 0, 3, 3);
            headsAt(69, 9999, 3, 3);
        });
    }

    private static void overWater() {
        Sentence.holds("Terms 1", "NORTHERN and POLAR do not go OVER WATER, the others do.", "each KIND at WATER, and out of it", () -> {
            for (int kind = 0; kind <= 6; kind++) {
                WalkFences x = Given.walking(WALKING_KMS[kind], 1, 0, 8, 18);
                x.lay(1, 9, 1);
                x.lay(1, 18, 1);
                x.dawns(1);
                Due.is(x.at(0, 1), kind == 1 || kind == 4 ? 8 : 9);
                Due.is(x.at(0, 2), 19);
            }
        });
    }

    private static void postsMove() {
        String move = "POSTS MOVE: FENCES by numbers, of each the POSTS one behind the other: each comes to the next CELL where it "
                + "HEADS, if there is one, without SALT, and (if it doesn't go OVER) without WATER; else it stays.";
        Sentence.holds("Terms 1", move, "no next CELL: it stays in each corner and at each side", () -> {
            int[][] held = {{0, 3, 7}, {7, 31, 63}, {56, 60, 63}, {0, 32, 56}};
            for (int way = 0; way <= 3; way++) {
                WalkFences x = Given.walking(0, way, held[way]);
                x.dawns(2);
                for (int post = 0; post < 3; post++) {
                    Due.is(x.at(0, post), held[way][post]);
                }
            }
        });
        Sentence.holds("Terms 1", move, "the CELLS next to the rim: it comes to the rim", () -> {
            int[] from = {8, 6, 55, 57};
            int[] to = {0, 7, 63, 56};
            for (int way = 0; way <= 3; way++) {
                WalkFences x = Given.walking(0, way, from[way]);
                x.dawns(1);
                Due.is(x.at(0, 0), to[way]);
            }
        });
        Sentence.holds("Terms 1", move, "SALT ahead holds each KIND, SALT where it is holds none", () -> {
            for (int km : WALKING_KMS) {
                WalkFences x = Given.walking(km, 1, 0, 8, 18);
                x.lay(0, 9, 1);
                x.lay(0, 18, 1);
                x.dawns(1);
                Due.is(x.at(0, 1), 8);
                Due.is(x.at(0, 2), 19);
            }
        });
        Sentence.holds("Terms 1", move, "SALT and WATER both ahead; either alone is enough", () -> {
            WalkFences x = Given.walking(10, 2, 0, 1, 2, 3);
            x.lay(0, 9, 1);
            x.lay(1, 10, 1);
            x.lay(0, 11, 1);
            x.lay(1, 11, 1);
            x.dawns(1);
            Due.is(x.land(0, 0), Given.bits(8, 1, 2, 3));
        });
        Sentence.holds("Terms 1", move, "POSTS do not hold one another, of the same FENCE or of two", () -> {
            WalkFences x = Given.walking(0, 1, 0, 1, 2);
            Given.posts(x, x.fence(0, 3), 3, 2, 1);
            x.dawns(1);
            Due.is(x.land(0, 0), Given.bits(1, 2, 3));
            Due.is(x.land(1, 0), Given.bits(2, 1, 0));
        });
        Sentence.holds("Terms 1", move, "a FENCE without POSTS, and none at all", () -> {
            WalkFences x = Given.fences(1);
            Due.is(x.dawns(1), 1);
            Due.is(x.land(0, 0), 0);
            Due.is(new WalkFences().dawns(60), 60);
        });
        Sentence.holds("Terms 1", "Then DAWN is 1 more.", "POSTS HEAD by the DAWN ahead of it", () -> {
            WalkFences x = Given.walking(20, 1, 0);
            int[] due = {1, 1, 2, 2, 3};
            for (int dawn = 1; dawn <= 5; dawn++) {
                Due.is(x.dawns(1), dawn);
                Due.is(x.at(0, 0), due[dawn - 1]);
            }
        });
    }

    private static void inside() {
        String sentence = "INSIDE of a FENCE: CELLS without a POST of it to which one does not come from the rim (rows 0, 7, places 0, 7) "
                + "by CELLS beside one another (up, right, down, left) without a POST of it (those on the rim without one are come to).";
        Sentence.holds("Terms 1", sentence, "without POSTS none is", () ->
                Due.is(Given.fences(1).land(0, 1), 0));
        Sentence.holds("Terms 1", sentence, "a CELL of the rim that POSTS go round is come to", () -> {
            Due.is(Given.walking(0, 0, 1, 8).land(0, 1), 0);
            Due.is(Given.walking(0, 0, 6, 15).land(0, 1), 0);
            Due.is(Given.walking(0, 0, 48, 57).land(0, 1), 0);
            Due.is(Given.walking(0, 0, 62, 55).land(0, 1), 0);
            Due.is(Given.walking(0, 0, 23, 30, 39).land(0, 1), 0);
        });
        Sentence.holds("Terms 1", sentence, "POSTS on the rim are not come through", () -> {
            Due.is(Given.walking(0, 0, 1, 2, 8, 11, 17, 18).land(0, 1), Given.bits(9, 10));
            Due.is(Given.walking(0, 0, 62, 53, 46, 55).land(0, 1), Given.bits(54));
        });
        Sentence.holds("Terms 1", sentence, "each CELL next to the rim, alone", () -> {
            for (int cell : new int[] {9, 14, 49, 54, 10, 17, 22, 53}) {
                WalkFences x = new WalkFences();
                Given.diamond(x, 0, 0, cell);
                Due.is(x.land(0, 1), 1L << cell);
            }
        });
        Sentence.holds("Terms 1", sentence, "one does not come slantwise, and does through each gap", () -> {
            WalkFences x = new WalkFences();
            Given.diamond(x, 60, 0, 27);
            Due.is(x.land(0, 1), 1L << 27);
            for (int gap = 0; gap < 4; gap++) {
                WalkFences y = Given.fences(1);
                for (int i = 0; i < 4; i++) {
                    if (i != gap) {
                        y.post(0, 27 + Given.BESIDE[i]);
                    }
                }
                Due.is(y.land(0, 1), 0);
            }
        });
        Sentence.holds("Terms 1", sentence, "the CELL of a POST is not, nor do the POSTS of two FENCES go round one", () -> {
            WalkFences x = Given.walking(0, 0, 19, 26, 28, 35, 27);
            Due.is(x.land(0, 1), 0);
            WalkFences y = Given.walking(0, 0, 19, 26);
            Given.posts(y, y.fence(0, 0), 28, 35);
            Due.each(0, y.land(0, 1), y.land(1, 1));
        });
        Sentence.holds("Terms 1", sentence, "SALT and WATER do not keep one from coming", () -> {
            WalkFences x = Given.walking(0, 0, 19, 26, 28);
            x.lay(0, 35, 1);
            x.lay(1, 35, 1);
            Due.is(x.land(0, 1), 0);
        });
        Sentence.holds("Terms 1", "ACRES: how many.", "none, one, and the most of 8 POSTS", () -> {
            Due.is(Given.walking(0, 0, 19, 26, 28).fenceIs(0, 5), 0);
            Due.is(Given.walking(0, 0, 19, 26, 28, 35).fenceIs(0, 5), 1);
            Due.is(Given.walking(0, 0, 20, 27, 29, 34, 38, 43, 45, 52).fenceIs(0, 5), 5);
        });
    }

    private static void brands() {
        String sentence = "The BRAND of a CELL: the least FENCE INSIDE of which it is (-1: none).";
        Sentence.holds("Terms 1", sentence, "of four FENCES the least, then the next, then none", () -> {
            WalkFences x = Given.cattle(27);
            for (int i = 0; i < 4; i++) {
                Given.diamond(x, 60, 0, 27);
            }
            for (int i = 0; i < 4; i++) {
                Due.is(x.cowIs(0, 2), i);
                Due.is(x.first(27, 1), i);
                x.cut(i);
            }
            Due.is(x.cowIs(0, 2), -1);
        });
        Sentence.holds("Terms 1", sentence, "a POST of the least FENCE is in it: the next one's", () -> {
            WalkFences x = Given.cattle(27);
            Given.posts(x, x.fence(60, 0), 27);
            Given.diamond(x, 60, 0, 27);
            Due.is(x.cowIs(0, 2), 1);
        });
    }

    private static void cattle() {
        String sentence = "CATTLE 0, 1, .. (at most 6), each in a CELL, FAT (0 .. 999; 0 at first).";
        Sentence.holds("Terms 1", sentence, "none at first, six, and not seven; several may be in a CELL", () -> {
            WalkFences x = new WalkFences();
            Due.is(x.count(1), 0);
            for (int i = 0; i < 6; i++) {
                Due.is(x.cow(9), i);
                Due.is(x.cowIs(i, 1), 0);
            }
            Due.is(x.cow(9), Due.FULL);
            Due.is(x.cowIs(6, 0), Due.BEYOND);
        });
    }

    private static void aDawn() {
        String sentence = "A DAWN: POSTS MOVE; then RICH of each FENCE is GRAZE more (held at 99999); "
                + "then FAT of each of the CATTLE is FEED more (held within 0 .. 999).";
        Sentence.holds("Terms 1", sentence, "RICH comes to 99999 just so, and stays", () -> {
            WalkFences x = Given.fences(4);
            Given.text(x, 0, "999");
            x.dawns(60);
            x.dawns(40);
            Due.is(x.fenceIs(3, 4), 99900);
            Given.text(x, 0, "98");
            x.dawns(1);
            Due.is(x.fenceIs(3, 4), 99998);
            Given.text(x, 0, "1");
            x.dawns(1);
            Due.is(x.fenceIs(3, 4), 99999);
            x.dawns(1);
            Due.each(99999, x.fenceIs(0, 4), x.fenceIs(3, 4));
        });
        Sentence.holds("Terms 1", sentence, "RICH that would go far beyond is held", () -> {
            WalkFences x = Given.fences(1);
            Given.text(x, 0, "990");
            x.dawns(60);
            x.dawns(41);
            Due.is(x.fenceIs(0, 4), 99990);
            x.dawns(1);
            Due.is(x.fenceIs(0, 4), 99999);
        });
        Sentence.holds("Terms 1", sentence, "FAT comes to 999 just so, stays, and comes down again", () -> {
            WalkFences x = Given.cattle(0, 0, 0, 0, 0, 0);
            Given.text(x, 1, "9");
            x.dawns(60);
            x.dawns(50);
            Due.is(x.cowIs(5, 1), 990);
            x.dawns(1);
            Due.is(x.cowIs(5, 1), 999);
            x.dawns(1);
            Due.each(999, x.cowIs(0, 1), x.cowIs(5, 1));
            Given.text(x, 1, "0-1");
            x.dawns(1);
            Due.is(x.cowIs(5, 1), 998);
            Given.text(x, 1, "9");
            x.dawns(1);
            Due.is(x.cowIs(5, 1), 999);
        });
        Sentence.holds("Terms 1", sentence, "FAT comes to 0 just so, and is held there", () -> {
            WalkFences x = Given.cattle(0);
            Given.text(x, 1, "3");
            x.dawns(3);
            Given.text(x, 1, "0-9");
            x.dawns(1);
            Due.is(x.cowIs(0, 1), 0);
            x.dawns(1);
            Due.is(x.cowIs(0, 1), 0);
            Given.text(x, 1, "4");
            x.dawns(1);
            Given.text(x, 1, "0-9");
            x.dawns(1);
            Due.is(x.cowIs(0, 1), 0);
        });
        Sentence.holds("Terms 1", sentence, "POSTS MOVE first: GRAZE, BRAND and DAWN are those behind it", () -> {
            WalkFences x = new WalkFences();
            Given.diamond(x, 0, 1, 26);
            x.cow(27);
            x.cow(26);
            Given.text(x, 0, "a*100+p");
            Given.text(x, 1, "(b+1)*5+d");
            x.dawns(1);
            Due.is(x.fenceIs(0, 4), 104);
            Due.is(x.cowIs(0, 1), 6);
            Due.is(x.cowIs(1, 1), 1);
        });
    }

    private static void byDraws() {
        String sentence = "BY DRAWS a DAWN: a draw: the CELL that is its rest by 64 has SALT, if it had none, or none; if there are CATTLE, "
                + "two draws: the one that is the first one's rest by how many there are goes the WAY that is the second one's rest by 4 "
                + "(if there is a CELL there); then a DAWN.";
        Sentence.holds("Terms 1", sentence, "SALT where there was none, and none where there was", () -> {
            // By z 0 the draw is 48.
            WalkFences x = new WalkFences();
            x.seed(0);
            Due.is(x.loose(1), 1);
            Due.is(x.lay(0, 48, 1), 1);
            x.seed(0);
            Due.is(x.loose(1), 0);
            Due.is(x.lay(0, 48, 1), 0);
        });
        Sentence.holds("Terms 1", sentence, "without CATTLE one draw, with one of them three", () -> {
            WalkFences x = new WalkFences();
            x.seed(0);
            x.loose(1);
            Due.is(x.count(8), 12345);
            WalkFences y = Given.cattle(27);
            y.seed(1);
            y.loose(1);
            Due.is(y.count(8), 662824084);
        });
        Sentence.holds("Terms 1", sentence, "each of six, by the rest of the draw", () -> {
            // For each of the six a z by which the second draw is its number, and the WAY of the third.
            int[] z = {6, 3, 1, 7, 5, 2};
            int[] to = {19, 28, 19, 19, 26, 28};
            for (int each = 0; each < 6; each++) {
                WalkFences x = Given.cattle(27, 27, 27, 27, 27, 27);
                x.seed(z[each]);
                x.loose(1);
                for (int cow = 0; cow < 6; cow++) {
                    Due.is(x.cowIs(cow, 0), cow == each ? to[each] : 27);
                }
            }
        });
        Sentence.holds("Terms 1", sentence, "no CELL there: it stays, in each corner", () -> {
            // By z 1, 2, 4, 5 the WAY of one of the CATTLE alone is 0, 1, 2, 3.
            int[] z = {1, 2, 4, 5};
            int[] corners = {0, 7, 56, 63};
            int[][] to = {{0, 1, 8, 0}, {7, 7, 15, 6}, {48, 57, 56, 56}, {55, 63, 63, 62}};
            for (int corner = 0; corner < 4; corner++) {
                for (int way = 0; way < 4; way++) {
                    WalkFences x = Given.cattle(corners[corner]);
                    x.seed(z[way]);
                    x.loose(1);
                    Due.is(x.cowIs(0, 0), to[corner][way]);
                }
            }
        });
        Sentence.holds("Terms 1", sentence, "the last CELL there: it comes to each corner", () -> {
            // By z 1, 2, 4, 5 the WAY of one of the CATTLE alone is 0, 1, 2, 3.
            int[] z = {1, 5, 1, 2, 4, 5, 4, 2};
            int[] from = {8, 1, 15, 6, 48, 57, 55, 62};
            int[] to = {0, 0, 7, 7, 56, 56, 63, 63};
            for (int i = 0; i < 8; i++) {
                WalkFences x = Given.cattle(from[i]);
                x.seed(z[i]);
                x.loose(1);
                Due.is(x.cowIs(0, 0), to[i]);
            }
        });
        Sentence.holds("Terms 1", sentence, "a CELL with SALT, WATER, a POST and another one there is a CELL, too", () -> {
            WalkFences x = Given.walking(60, 0, 28);
            x.cow(27);
            x.lay(0, 28, 1);
            x.lay(1, 28, 1);
            // By z 2 the one alone goes right; by z 3 the second of six does.
            x.seed(2);
            x.loose(1);
            Due.is(x.cowIs(0, 0), 28);
            WalkFences y = Given.cattle(28, 27, 28, 28, 28, 28);
            y.seed(3);
            y.loose(1);
            Due.is(y.cowIs(1, 0), 28);
        });
        Sentence.holds("Terms 1", sentence, "then a DAWN: SALT holds POSTS at once, and DAWN is 1 more", () -> {
            WalkFences x = Given.walking(0, 2, 40, 41);
            x.seed(0);
            x.loose(1);
            Due.is(x.land(0, 0), Given.bits(40, 49));
            Due.is(x.count(2), 1);
            Due.is(x.fenceIs(0, 4), 2);
        });
    }

    private static void draws() {
        String sentence = "DRAWS: z is told (1 at first); each makes it z * 1103515245 + 12345 (an int), and gives z >>> 8.";
        Sentence.holds("Terms 1", sentence, "1 at first", () -> {
            WalkFences x = new WalkFences();
            Due.is(x.loose(1), 1);
            Due.is(x.lay(0, 62, 0), 1);
            Due.is(x.count(8), 1103527590);
        });
        Sentence.holds("Terms 1", sentence, "z wraps: the most, the least, -1", () -> {
            int[] z = {MAX, MIN, -1};
            int[] next = {1043980748, -2147471303, -1103502900};
            int[] salted = {33, 48, 33};
            for (int i = 0; i < 3; i++) {
                WalkFences x = new WalkFences();
                x.seed(z[i]);
                Due.is(x.loose(1), 1);
                Due.is(x.count(8), next[i]);
                // A z below 0 gives a draw that is not.
                Due.is(x.lay(0, salted[i], 0), 1);
            }
        });
    }
}
