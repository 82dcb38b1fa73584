/** Short ways to bring an object where a test begins. */
final class Given {
    static final int[] AROUND = {-9, -8, -7, -1, 1, 7, 8, 9};
    static final int[] BESIDE = {-8, -1, 1, 8};

    private Given() {
    }

    /** A FENCE of 8 POSTS around a CELL, which alone is INSIDE. */
    static int ring(WalkFences x, int km, int heading, int cell) {
        return posted(x, km, heading, cell, AROUND);
    }

    /** A FENCE of the 4 POSTS beside a CELL, which alone is INSIDE. */
    static int diamond(WalkFences x, int km, int heading, int cell) {
        return posted(x, km, heading, cell, BESIDE);
    }

    private static int posted(WalkFences x, int km, int heading, int cell, int[] steps) {
        int fence = x.fence(km, heading);
        for (int step : steps) {
            x.post(fence, cell + step);
        }
        return fence;
    }

    /** A new object with so many FENCES of KIND 0, m 0, HEADING 0. */
    static WalkFences fences(int n) {
        WalkFences x = new WalkFences();
        for (int i = 0; i < n; i++) {
            x.fence(0, 0);
        }
        return x;
    }

    /** A new object with one FENCE that has these POSTS. */
    static WalkFences walking(int km, int heading, int... cells) {
        WalkFences x = new WalkFences();
        posts(x, x.fence(km, heading), cells);
        return x;
    }

    static void posts(WalkFences x, int fence, int... cells) {
        for (int cell : cells) {
            x.post(fence, cell);
        }
    }

    /** A new object with CATTLE in these CELLS. */
    static WalkFences cattle(int... cells) {
        WalkFences x = new WalkFences();
        for (int cell : cells) {
            x.cow(cell);
        }
        return x;
    }

    /** Numbers just outside of a span, and as far outside as can be. */
    static int[] outside(int least, int most) {
        return new int[] {least - 1, most + 1, Integer.MIN_VALUE, Integer.MAX_VALUE};
    }

    /**
     * A TURNER (m 9) whose first POST stands in CELL 0 and goes inwards in a spiral: from a DAWN x (0 .. 9)
     * on it stays for 10 - x moves, then goes right, down, left, up, right for 10 moves each, held by the rim
     * and by SALT, and is in CELL 20 when it turns down at the move 61 - x.
     */
    static WalkFences spiral(int dawn) {
        WalkFences x = new WalkFences();
        dawnIs(x, dawn);
        x.fence(39, 0);
        x.post(0, 0);
        x.lay(0, 8, 1);
        x.lay(0, 21, 1);
        return x;
    }

    /**
     * Three walls that make one long way to and fro from CELL 0, with one of the CATTLE, to CELL 48; a gate at
     * its begin, in CELL 1, first goes down, into a wall, by the DAWN 30. From a DAWN x on the way to CELL 1
     * is 31 - x, to CELL 49 63 - x, to CELL 48 64 - x.
     */
    static WalkFences longWay(int dawn) {
        WalkFences x = new WalkFences();
        dawnIs(x, dawn);
        for (int wall = 0; wall < 3; wall++) {
            x.fence(60, 0);
            for (int place = 0; place < 7; place++) {
                x.post(wall, 8 + 16 * wall + place + wall % 2);
            }
        }
        x.fence(39, 3);
        x.post(3, 1);
        for (int cell : new int[] {0, 2, 8, 10, 17}) {
            x.lay(0, cell, 1);
        }
        x.cow(0);
        return x;
    }

    /** Brings a text to THE TAPE; answers how many bytes it holds. */
    static int tape(WalkFences x, String text) {
        int bytes = x.count(5);
        for (int from = 0; from < text.length(); from += 8) {
            int n = Math.min(8, text.length() - from);
            long word = 0;
            for (int i = n - 1; i >= 0; i--) {
                word = word << 8 | text.charAt(from + i);
            }
            bytes = x.feed(word, n);
        }
        return bytes;
    }

    /** What text() answers to these bytes. */
    static int text(WalkFences x, int use, String text) {
        tape(x, text);
        return x.text(use);
    }

    static void sheet(WalkFences x, int sheet, int bits, int... numbers) {
        x.sheet(sheet, bits, numbers.length);
        for (int i = 0; i < numbers.length; i++) {
            x.put(sheet, i, numbers[i]);
        }
    }

    static void dawnIs(WalkFences x, int dawn) {
        for (int left = dawn - x.count(2); left > 0; left -= 60) {
            x.dawns(Math.min(60, left));
        }
    }

    static long bits(int... cells) {
        long set = 0;
        for (int cell : cells) {
            set |= 1L << cell;
        }
        return set;
    }
}
