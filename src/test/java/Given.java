/** Short ways to bring an object where a test begins. */
final class Given {
    static final int[] AROUND = {-9, -8, -7, -1, 1, 7, 8, 9};
    static final int[] BESIDE = {-8, -1, 1, 8};

    private Given() {
    }

    /** A FENCE of 8 POSTS around a CELL, which alone is INSIDE. */
    static int ring(WalkFences x, int km, int heading, int cell) {
        return posted(x, km, heading, cell, AROUND);
    }

    /** A FENCE of the 4 POSTS beside a CELL, which alone is INSIDE. */
    static int diamond(WalkFences x, int km, int heading, int cell) {
        return posted(x, km, heading, cell, BESIDE);
    }

    private static int posted(WalkFences x, int km, int heading, int cell, int[] steps) {
        int fence = x.fence(km, heading);
        for (int step : steps) {
            x.post(fence, cell + step);
        }
        return fence;
    }

    /** Brings a text to THE TAPE; answers how many bytes it holds. */
    static int tape(WalkFences x, String text) {
        int bytes = x.count(5);
        for (int from = 0; from < text.length(); from += 8) {
            int n = Math.min(8, text.length() - from);
            long word = 0;
            for (int i = n - 1; i >= 0; i--) {
                word = word << 8 | text.charAt(from + i);
            }
            bytes = x.feed(word, n);
        }
        return bytes;
    }

    /** What text() answers to these bytes. */
    static int text(WalkFences x, int use, String text) {
        tape(x, text);
        return x.text(use);
    }

    static void sheet(WalkFences x, int sheet, int bits, int... numbers) {
        x.sheet(sheet, bits, numbers.length);
        for (int i = 0; i < numbers.length; i++) {
            x.put(sheet, i, numbers[i]);
        }
    }

    static void dawnIs(WalkFences x, int dawn) {
        while (x.count(2) < dawn) {
            x.dawns(Math.min(60, dawn - x.count(2)));
        }
    }

    static long bits(int... cells) {
        long set = 0;
        for (int cell : cells) {
            set |= 1L << cell;
        }
        return set;
    }
}
