import java.util.ArrayList;
import java.util.List;

/** Each refused call of each act: it answers its ERROR, told() tells one more, and nothing else is changed. */
final class RefusedBounds {
    private static final String SENTENCE = "Each act tells its ERRORS in the order in which they are asked; one that answers an ERROR "
            + "changes nothing but what told() tells, or where told.";

    private static final List<String> ERRORS = List.of("BEYOND", "NONE", "STATE", "FULL", "KIND", "PARTED");

    private interface Call {
        long of(WalkFences x);
    }

    private RefusedBounds() {
    }

    static void all() {
        fencesAndCattle();
        textsAndDawns();
        thought();
        telling();
        others();
    }

    private static void fencesAndCattle() {
        refused("fence(70, 0)", "BEYOND", x -> x.fence(70, 0));
        refused("fence(0, 4)", "BEYOND", x -> x.fence(0, 4));
        refused("fence(0, 0)", "FULL", x -> x.fence(0, 0));
        refused("post(4, 0)", "BEYOND", x -> x.post(4, 0));
        refused("post(0, 64)", "BEYOND", x -> x.post(0, 64));
        refused("post(0, 0)", "FULL", x -> x.post(0, 0));
        refused("fenceIs(0, 7)", "BEYOND", x -> x.fenceIs(0, 7));
        refused("at(1, 4)", "BEYOND", x -> x.at(1, 4));
        refused("heads(1, 4)", "BEYOND", x -> x.heads(1, 4));
        refused("become(0, 70)", "BEYOND", x -> x.become(0, 70));
        refused("become(4, 0)", "BEYOND", x -> x.become(4, 0));
        refused("as(0, 7)", "BEYOND", x -> x.as(0, 7));
        refused("as(0, 6)", "KIND", x -> x.as(0, 6));
        refused("turn(0, 4)", "BEYOND", x -> x.turn(0, 4));
        refused("turn(4, 0)", "BEYOND", x -> x.turn(4, 0));
        refused("cut(4)", "BEYOND", x -> x.cut(4));
        refused("cut(2)", "STATE", x -> x.cut(2));
        refused("lay(2, 0, 1)", "BEYOND", x -> x.lay(2, 0, 1));
        refused("lay(0, 64, 1)", "BEYOND", x -> x.lay(0, 64, 1));
        refused("lay(0, 0, 2)", "BEYOND", x -> x.lay(0, 0, 2));
        refused("cow(64)", "BEYOND", x -> x.cow(64));
        refused("cow(0)", "FULL", x -> x.cow(0));
        refused("cowIs(0, 3)", "BEYOND", x -> x.cowIs(0, 3));
        refused("drive(0, 64)", "BEYOND", x -> x.drive(0, 64));
        refused("drive(6, 0)", "BEYOND", x -> x.drive(6, 0));
    }

    private static void textsAndDawns() {
        refused("feed('1', 9)", "BEYOND", x -> x.feed('1', 9));
        refused("feed('1', 0)", "BEYOND", x -> x.feed('1', 0));
        refused("feed('1', 8)", "FULL", x -> x.feed('1', 8));
        refused("text(2)", "BEYOND", x -> x.text(2));
        refused("untell(2)", "BEYOND", x -> x.untell(2));
        refused("law(2, 0, 0, 0)", "BEYOND", x -> x.law(2, 0, 0, 0));
        refused("dawns(61)", "BEYOND", x -> x.dawns(61));
        refused("dawns(0)", "BEYOND", x -> x.dawns(0));
        refused("loose(21)", "BEYOND", x -> x.loose(21));
        refused("loose(0)", "BEYOND", x -> x.loose(0));
    }

    private static void thought() {
        refused("land(0, 2)", "BEYOND", x -> x.land(0, 2));
        refused("then(0, 61, 0)", "BEYOND", x -> x.then(0, 61, 0));
        refused("first(64, 0)", "BEYOND", x -> x.first(64, 0));
        refused("first(0, 0)", "NONE", x -> x.first(0, 0));
        refused("salts(0, 64, 0, -1)", "BEYOND", x -> x.salts(0, 64, 0, -1));
        refused("salts(1, 0, 6, -1)", "NONE", x -> x.salts(1, 0, 6, -1));
        refused("way(6, 0)", "BEYOND", x -> x.way(6, 0));
        refused("way(0, 0)", "NONE", x -> x.way(0, 0));
        refused("odds(2)", "BEYOND", x -> x.odds(2));
        refused("fits(0, 4)", "BEYOND", x -> x.fits(0, 4));
        refused("fits(3, 0)", "NONE", x -> x.fits(3, 0));
        refused("fits(0, 1)", "NONE", x -> x.fits(0, 1));
    }

    private static void telling() {
        refused("voice(0, 4, 0)", "BEYOND", x -> x.voice(0, 4, 0));
        refused("voice(4, 3, 0)", "BEYOND", x -> x.voice(4, 3, 0));
        refused("body(30)", "NONE", x -> x.body(30));
        refused("sheet(4, 8, 1)", "BEYOND", x -> x.sheet(4, 8, 1));
        refused("sheet(0, 9, 1)", "BEYOND", x -> x.sheet(0, 9, 1));
        refused("sheet(0, 16, -1)", "STATE", x -> x.sheet(0, 16, -1));
        refused("sheet(0, 16, 25)", "BEYOND", x -> x.sheet(0, 16, 25));
        refused("put(4, 0, 1)", "BEYOND", x -> x.put(4, 0, 1));
        refused("put(3, 0, 1)", "NONE", x -> x.put(3, 0, 1));
        refused("put(0, 5, 1)", "BEYOND", x -> x.put(0, 5, 1));
        refused("move(0, 0, 4, 0, 1)", "BEYOND", x -> x.move(0, 0, 4, 0, 1));
        refused("move(0, 0, 3, 0, 1)", "NONE", x -> x.move(0, 0, 3, 0, 1));
        refused("move(0, 0, 1, 0, 1)", "KIND", x -> x.move(0, 0, 1, 0, 1));
        refused("move(0, 0, 2, 0, 3)", "BEYOND", x -> x.move(0, 0, 2, 0, 3));
        refused("sets(0, 4)", "BEYOND", x -> x.sets(0, 4));
        refused("sets(0, 3)", "NONE", x -> x.sets(0, 3));
        refused("judge(4)", "BEYOND", x -> x.judge(4));
        refused("judge(3)", "NONE", x -> x.judge(3));
        refused("tell(1)", "FULL", x -> x.tell(1));
        refused("count(9)", "BEYOND", x -> x.count(9));
        refused("told(7)", "BEYOND", x -> x.told(7));
    }

    private static void refused(String written, String error, Call call) {
        Sentence.holds("Terms", SENTENCE, written + " that answers " + error, () -> {
            int number = ERRORS.indexOf(error) + 1;
            WalkFences x = furnished();
            int[] ahead = told(x);
            Due.is(call.of(x), -1000000000 - number);
            int[] behind = told(x);
            for (int k = 1; k <= 6; k++) {
                Due.is(behind[k], ahead[k] + (k == number ? 1 : 0));
            }
            isAsAhead(x, furnished());
        });
    }

    private static int[] told(WalkFences x) {
        int[] told = new int[7];
        for (int k = 1; k <= 6; k++) {
            told[k] = x.told(k);
        }
        return told;
    }

    /** Those that want another object than furnished(), or change more than what told() tells. */
    private static void others() {
        Sentence.holds("Terms", SENTENCE, "voice that answers PARTED: but THE TRACE, as its own sentence tells", () -> {
            WalkFences x = furnished();
            // The m of FENCE 1 is 1.
            Due.is(x.voice(1, 3, 5), Due.PARTED);
            Due.is(x.told(6), 1);
            Due.is(x.count(7), 2);
            Due.is(x.body(0), 21);
            // With the same latest voice() the two are alike again.
            WalkFences twin = furnished();
            x.voice(0, 2, 5);
            twin.voice(0, 2, 5);
            isAsAhead(x, twin);
        });
        Sentence.holds("Terms", SENTENCE, "restore() that answers NONE", () -> {
            WalkFences x = Given.walking(31, 1, 9, 10);
            x.cow(5);
            x.tell(5);
            Due.is(x.restore(), Due.NONE);
            Due.each(1, x.count(0), x.count(1), x.count(6), x.count(8), x.told(2), x.fenceIs(0, 1), x.fenceIs(0, 2));
            Due.is(x.land(0, 0), Given.bits(9, 10));
        });
        Sentence.holds("Terms", SENTENCE, "dawns and loose that answer STATE", () -> {
            WalkFences x = Given.walking(0, 1, 9);
            x.cow(27);
            Given.text(x, 1, "1");
            Given.dawnIs(x, 9990);
            x.cut(0);
            x.post(0, 9);
            x.drive(0, 27);
            int rich = x.fenceIs(0, 4);
            int fat = x.cowIs(0, 1);
            Due.each(Due.STATE, x.dawns(10), x.loose(10));
            Due.is(x.count(2), 9990);
            Due.is(x.at(0, 0), 9);
            Due.is(x.fenceIs(0, 4), rich);
            Due.is(x.cowIs(0, 0), 27);
            Due.is(x.cowIs(0, 1), fat);
            Due.is(x.count(3), 0);
            Due.is(x.count(8), 1);
        });
    }

    /** An object with four FENCES, one of 8 POSTS and one of none, six CATTLE, and some of all else. */
    private static WalkFences furnished() {
        WalkFences x = Given.cattle(18, 45, 45, 3, 60, 33);
        Given.ring(x, 33, 1, 18);
        Given.diamond(x, 41, 2, 45);
        x.fence(27, 3);
        Given.diamond(x, 60, 0, 18);
        Given.posts(x, 3, 40, 41);
        x.lay(0, 30, 1);
        x.lay(0, 63, 1);
        x.lay(1, 31, 1);
        Given.text(x, 0, "a*3+p");
        Given.text(x, 1, "b+d");
        Given.sheet(x, 0, 8, 1, 2, 3, 4, 5);
        Given.sheet(x, 1, 16, -1, 6);
        Given.sheet(x, 2, 8, 62, 63);
        x.dawns(2);
        x.image();
        x.dawns(1);
        Given.tape(x, "1+1+1+1+1+1+1+1+1+1+1+1+1+1+1+1+1+1+1+1+1+1+1+1+1+1+1+1");
        for (int i = 0; i < 24; i++) {
            x.tell(i);
        }
        x.seed(-5);
        x.voice(2, 2, 5);
        return x;
    }

    private static void isAsAhead(WalkFences x, WalkFences twin) {
        List<Long> seen = seen(x);
        List<Long> due = seen(twin);
        for (int i = 0; i < due.size(); i++) {
            if (!seen.get(i).equals(due.get(i))) {
                Due.fail("look " + i + " answers " + seen.get(i) + ", ahead " + due.get(i));
            }
        }
    }

    /** All that an object answers, what told() tells but left out; it is spent then. */
    private static List<Long> seen(WalkFences x) {
        List<Long> seen = new ArrayList<>();
        range(x, seen);
        long[] rest = {x.judge(0), x.judge(1), x.fits(0, 0), x.image(), x.restore(), x.text(0), x.law(0, 1, 2, 3), x.check(), x.loose(3)};
        for (long each : rest) {
            seen.add(each);
        }
        range(x, seen);
        for (int i = 0; i < 6; i++) {
            seen.add((long) x.body(i));
        }
        for (int sheet = 0; sheet < 4; sheet++) {
            seen.add((long) x.sets(0, sheet));
            seen.add(x.land(0, 0));
            seen.add((long) x.at(0, 4));
        }
        for (int cell = 0; cell < 64; cell++) {
            seen.add((long) x.lay(0, cell, 0));
            seen.add((long) x.lay(1, cell, 0));
        }
        return seen;
    }

    private static void range(WalkFences x, List<Long> seen) {
        for (int what = 0; what <= 8; what++) {
            seen.add((long) x.count(what));
        }
        for (int fence = 0; fence < 4; fence++) {
            for (int what = 0; what <= 6; what++) {
                seen.add((long) x.fenceIs(fence, what));
            }
            seen.add(x.land(fence, 0));
        }
        for (int cow = 0; cow < 6; cow++) {
            seen.add((long) x.cowIs(cow, 0));
            seen.add((long) x.cowIs(cow, 1));
        }
        seen.add((long) x.law(0, 1, 2, 3));
        seen.add((long) x.law(1, 1, 2, 3));
    }
}
