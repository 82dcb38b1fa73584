import java.util.ArrayList;
import java.util.Arrays;
import java.util.List;

/**
 * The document a second time, as slow and as plain as can be, and made of other parts than the class: rows and
 * places, lists, texts cut in two at their signs, every set of CELLS tried. ModelRunsTest compares the two.
 */
final class Model {
    private static final int[] UP_KIND = {-1, 0, 0, 0, 1, 2, 0};
    private static final int[] ROW_STEP = {-1, 0, 1, 0};
    private static final int[] PLACE_STEP = {0, 1, 0, -1};

    private static final class Pen {
        int kind;
        int m;
        int heading;
        int rich;
        List<Integer> posts = new ArrayList<>();

        Pen copy() {
            Pen other = new Pen();
            other.kind = kind;
            other.m = m;
            other.heading = heading;
            other.rich = rich;
            other.posts = new ArrayList<>(posts);
            return other;
        }
    }

    private static final class Beast {
        int cell;
        int fat;

        Beast(int cell, int fat) {
            this.cell = cell;
            this.fat = fat;
        }
    }

    /** All that an IMAGE keeps. */
    private static final class World {
        List<Pen> pens = new ArrayList<>();
        List<Beast> herd = new ArrayList<>();
        boolean[] salt = new boolean[64];
        boolean[] water = new boolean[64];
        int dawn = 0;
        int z = 1;
        String tape = "";
        String[] texts = new String[2];
        List<Integer> waiting = new ArrayList<>();

        World copy() {
            World other = new World();
            for (Pen pen : pens) {
                other.pens.add(pen.copy());
            }
            for (Beast beast : herd) {
                other.herd.add(new Beast(beast.cell, beast.fat));
            }
            other.salt = salt.clone();
            other.water = water.clone();
            other.dawn = dawn;
            other.z = z;
            other.tape = tape;
            other.texts = texts.clone();
            other.waiting = new ArrayList<>(waiting);
            return other;
        }
    }

    private World world = new World();
    private World kept = null;
    private int images = 0;
    private final int[] errors = new int[7];
    private final long[][] sheets = new long[4][];
    private final int[] sheetBits = new int[4];
    private List<Integer> trace = new ArrayList<>();

    private int wrong(int error) {
        errors[-1000000000 - error]++;
        return error;
    }

    private boolean noPen(int fence) {
        return fence < 0 || fence >= world.pens.size();
    }

    private boolean noBeast(int cow) {
        return cow < 0 || cow >= world.herd.size();
    }

    private static boolean out(int v, int least, int most) {
        return v < least || v > most;
    }

    // What is beside what, and INSIDE of what.

    private static int step(int cell, int way) {
        if (way < 0) {
            return -1;
        }
        int row = cell / 8 + ROW_STEP[way];
        int place = cell % 8 + PLACE_STEP[way];
        return out(row, 0, 7) || out(place, 0, 7) ? -1 : row * 8 + place;
    }

    private static boolean[] inside(Pen pen) {
        boolean[] come = new boolean[64];
        for (int cell = 0; cell < 64; cell++) {
            boolean rim = cell / 8 == 0 || cell / 8 == 7 || cell % 8 == 0 || cell % 8 == 7;
            if (rim) {
                flood(pen, cell, come);
            }
        }
        boolean[] inside = new boolean[64];
        for (int cell = 0; cell < 64; cell++) {
            inside[cell] = !come[cell] && !pen.posts.contains(cell);
        }
        return inside;
    }

    private static void flood(Pen pen, int cell, boolean[] come) {
        if (cell < 0 || come[cell] || pen.posts.contains(cell)) {
            return;
        }
        come[cell] = true;
        for (int way = 0; way < 4; way++) {
            flood(pen, step(cell, way), come);
        }
    }

    private static int acres(Pen pen) {
        int acres = 0;
        for (boolean each : inside(pen)) {
            acres += each ? 1 : 0;
        }
        return acres;
    }

    private static int brand(World w, int cell) {
        for (int i = 0; i < w.pens.size(); i++) {
            if (inside(w.pens.get(i))[cell]) {
                return i;
            }
        }
        return -1;
    }

    // Moves and dawns.

    private static int heads(Pen pen, int post, int dawn) {
        boolean odd = dawn % 2 != 0;
        int way = pen.heading;
        if (pen.kind == 2 && odd || pen.kind == 5 && (odd || post == 0) || pen.kind == 6 && pen.m != 9) {
            return -1;
        }
        if (pen.kind == 3) {
            return (pen.heading + dawn / (pen.m + 1)) % 4;
        }
        if (pen.kind == 4 && (dawn % 4 == 2 || dawn % 4 == 3)) {
            return new int[] {2, 3, 0, 1}[way];
        }
        return way;
    }

    private static void postsMove(World w) {
        for (Pen pen : w.pens) {
            boolean dry = pen.kind == 1 || pen.kind == 4;
            for (int i = 0; i < pen.posts.size(); i++) {
                int to = step(pen.posts.get(i), heads(pen, i, w.dawn));
                if (to >= 0 && !w.salt[to] && !(dry && w.water[to])) {
                    pen.posts.set(i, to);
                }
            }
        }
        w.dawn++;
    }

    private static int graze(World w, Pen pen) {
        return law(w, 0, acres(pen), pen.posts.size(), pen.kind);
    }

    private static void dawnComes(World w) {
        postsMove(w);
        for (Pen pen : w.pens) {
            pen.rich = Math.min(99999, pen.rich + graze(w, pen));
        }
        for (Beast beast : w.herd) {
            int more = law(w, 1, beast.cell, brand(w, beast.cell), w.dawn % 7);
            beast.fat = Math.min(999, Math.max(0, beast.fat + more));
        }
    }

    private int draw() {
        world.z = world.z * 1103515245 + 12345;
        return world.z >>> 8;
    }

    // Texts.

    private static int law(World w, int use, int a, int b, int c) {
        String text = w.texts[use];
        if (text == null) {
            text = use == 0 ? "a+p" : "b+1";
        }
        int worth = worth(text, use == 0 ? "apk" : "cbd", new int[] {a, b, c});
        return use == 0 ? Math.min(999, Math.max(0, worth)) : Math.min(9, Math.max(-9, worth));
    }

    /** Cuts a text at its last sign of the lowest level that it has outside of ( ). */
    private static int worth(String text, String names, int[] values) {
        for (String signs : new String[] {"|", "&", "<=>", "+-", "*/%"}) {
            int depth = 0;
            for (int i = text.length() - 1; i > 0; i--) {
                char sign = text.charAt(i);
                depth += sign == ')' ? 1 : sign == '(' ? -1 : 0;
                if (depth == 0 && signs.indexOf(sign) >= 0) {
                    int left = worth(text.substring(0, i), names, values);
                    return join(sign, left, worth(text.substring(i + 1), names, values));
                }
            }
        }
        if (text.charAt(0) == '!') {
            return worth(text.substring(1), names, values) == 0 ? 1 : 0;
        }
        if (text.charAt(0) == '(') {
            return worth(text.substring(1, text.length() - 1), names, values);
        }
        int name = names.indexOf(text.charAt(0));
        return name >= 0 ? values[name] : Integer.parseInt(text);
    }

    private static int join(char sign, long left, long right) {
        switch (sign) {
            case '|': return left != 0 || right != 0 ? 1 : 0;
            case '&': return left != 0 && right != 0 ? 1 : 0;
            case '<': return left < right ? 1 : 0;
            case '=': return left == right ? 1 : 0;
            case '>': return left > right ? 1 : 0;
            case '+': return (int) (left + right);
            case '-': return (int) (left - right);
            case '*': return (int) (left * right);
            case '/': return right == 0 ? 0 : (int) (left / right);
            default: return right == 0 ? 0 : (int) (left % right);
        }
    }

    /** Goes along the bytes with a row of what is open; -1 if they are a TEXT. */
    private static int fault(String text, String names) {
        StringBuilder open = new StringBuilder();
        // Whether the text, or what is in a (, has a < = > since its last & or |.
        List<Boolean> compared = new ArrayList<>(List.of(false));
        int digits = 0;
        boolean operandDue = true;
        for (int i = 0; i < text.length(); i++) {
            char sign = text.charAt(i);
            int top = compared.size() - 1;
            boolean digit = sign >= '0' && sign <= '9';
            if (operandDue && (sign == '!' || sign == '(')) {
                if (open.length() == 5) {
                    return i;
                }
                open.append(sign);
                if (sign == '(') {
                    compared.add(false);
                }
                continue;
            }
            if (!operandDue && digit && digits > 0 && digits < 4) {
                digits++;
                continue;
            }
            if (operandDue) {
                if (!digit && names.indexOf(sign) < 0) {
                    return i;
                }
                digits = digit ? 1 : 0;
                operandDue = false;
                close(open);
                continue;
            }
            digits = 0;
            if (sign == ')' && top > 0) {
                compared.remove(top);
                open.setLength(open.length() - 1);
                close(open);
                continue;
            }
            if ("<=>".indexOf(sign) >= 0 && compared.get(top) || "|&<=>+-*/%".indexOf(sign) < 0) {
                return i;
            }
            if ("<=>|&".indexOf(sign) >= 0) {
                compared.set(top, "<=>".indexOf(sign) >= 0);
            }
            operandDue = true;
        }
        return operandDue || open.length() > 0 ? text.length() : -1;
    }

    /** An operand is done, and with it each ! ahead of it. */
    private static void close(StringBuilder open) {
        while (open.length() > 0 && open.charAt(open.length() - 1) == '!') {
            open.setLength(open.length() - 1);
        }
    }

    // ---- fences, cattle

    int fence(int km, int heading) {
        if (out(km, 0, 69) || out(heading, 0, 3)) {
            return wrong(Due.BEYOND);
        }
        if (world.pens.size() == 4) {
            return wrong(Due.FULL);
        }
        Pen pen = new Pen();
        pen.kind = km / 10;
        pen.m = km % 10;
        pen.heading = heading;
        world.pens.add(pen);
        return world.pens.size() - 1;
    }

    int post(int fence, int cell) {
        if (noPen(fence) || out(cell, 0, 63)) {
            return wrong(Due.BEYOND);
        }
        List<Integer> posts = world.pens.get(fence).posts;
        if (posts.size() == 8) {
            return wrong(Due.FULL);
        }
        posts.add(cell);
        return posts.size();
    }

    int fenceIs(int fence, int what) {
        if (noPen(fence) || out(what, 0, 6)) {
            return wrong(Due.BEYOND);
        }
        Pen pen = world.pens.get(fence);
        int[] all = {pen.kind, pen.m, pen.heading, pen.posts.size(), pen.rich, acres(pen), graze(world, pen)};
        return all[what];
    }

    int at(int fence, int post) {
        if (noPen(fence) || out(post, 0, world.pens.get(fence).posts.size() - 1)) {
            return wrong(Due.BEYOND);
        }
        return world.pens.get(fence).posts.get(post);
    }

    int heads(int fence, int post) {
        if (noPen(fence) || out(post, 0, world.pens.get(fence).posts.size() - 1)) {
            return wrong(Due.BEYOND);
        }
        return heads(world.pens.get(fence), post, world.dawn);
    }

    int become(int fence, int km) {
        if (noPen(fence) || out(km, 0, 69)) {
            return wrong(Due.BEYOND);
        }
        Pen pen = world.pens.get(fence);
        int was = pen.kind;
        pen.kind = km / 10;
        pen.m = km % 10;
        return was;
    }

    int as(int fence, int kind) {
        if (noPen(fence) || out(kind, 0, 6)) {
            return wrong(Due.BEYOND);
        }
        for (int up = world.pens.get(fence).kind; up >= 0; up = UP_KIND[up]) {
            if (up == kind) {
                return world.pens.get(fence).m;
            }
        }
        return wrong(Due.KIND);
    }

    int turn(int fence, int heading) {
        if (noPen(fence) || out(heading, 0, 3)) {
            return wrong(Due.BEYOND);
        }
        int was = world.pens.get(fence).heading;
        world.pens.get(fence).heading = heading;
        return was;
    }

    int cut(int fence) {
        if (noPen(fence)) {
            return wrong(Due.BEYOND);
        }
        List<Integer> posts = world.pens.get(fence).posts;
        if (posts.isEmpty()) {
            return wrong(Due.STATE);
        }
        posts.remove(posts.size() - 1);
        return posts.size();
    }

    int lay(int what, int cell, int is) {
        if (out(what, 0, 1) || out(cell, 0, 63) || out(is, 0, 1)) {
            return wrong(Due.BEYOND);
        }
        boolean[] laid = what == 0 ? world.salt : world.water;
        boolean was = laid[cell];
        laid[cell] = is == 1;
        return was ? 1 : 0;
    }

    int cow(int cell) {
        if (out(cell, 0, 63)) {
            return wrong(Due.BEYOND);
        }
        if (world.herd.size() == 6) {
            return wrong(Due.FULL);
        }
        world.herd.add(new Beast(cell, 0));
        return world.herd.size() - 1;
    }

    int cowIs(int cow, int what) {
        if (noBeast(cow) || out(what, 0, 2)) {
            return wrong(Due.BEYOND);
        }
        Beast beast = world.herd.get(cow);
        return what == 0 ? beast.cell : what == 1 ? beast.fat : brand(world, beast.cell);
    }

    int drive(int cow, int cell) {
        if (noBeast(cow) || out(cell, 0, 63)) {
            return wrong(Due.BEYOND);
        }
        int was = world.herd.get(cow).cell;
        world.herd.get(cow).cell = cell;
        return was;
    }

    // ---- texts

    int feed(long word, int n) {
        if (out(n, 1, 8)) {
            return wrong(Due.BEYOND);
        }
        if (world.tape.length() + n > 60) {
            return wrong(Due.FULL);
        }
        for (int i = 0; i < n; i++) {
            world.tape += (char) (word >> 8 * i & 0xFF);
        }
        return world.tape.length();
    }

    int text(int use) {
        if (out(use, 0, 1)) {
            return wrong(Due.BEYOND);
        }
        String text = world.tape;
        world.tape = "";
        int fault = fault(text, use == 0 ? "apk" : "cbd");
        if (fault >= 0) {
            return -10 - fault;
        }
        world.texts[use] = text;
        return 1;
    }

    int untell(int use) {
        if (out(use, 0, 1)) {
            return wrong(Due.BEYOND);
        }
        boolean had = world.texts[use] != null;
        world.texts[use] = null;
        return had ? 1 : 0;
    }

    int law(int use, int a, int b, int c) {
        return out(use, 0, 1) ? wrong(Due.BEYOND) : law(world, use, a, b, c);
    }

    // ---- dawns

    int dawns(int n) {
        if (out(n, 1, 60)) {
            return wrong(Due.BEYOND);
        }
        if (world.dawn + n > 9999) {
            return wrong(Due.STATE);
        }
        for (int i = 0; i < n; i++) {
            dawnComes(world);
        }
        return world.dawn;
    }

    int loose(int n) {
        if (out(n, 1, 20)) {
            return wrong(Due.BEYOND);
        }
        if (world.dawn + n > 9999) {
            return wrong(Due.STATE);
        }
        for (int i = 0; i < n; i++) {
            int salted = draw() % 64;
            world.salt[salted] = !world.salt[salted];
            if (!world.herd.isEmpty()) {
                Beast beast = world.herd.get(draw() % world.herd.size());
                int to = step(beast.cell, draw() % 4);
                beast.cell = to < 0 ? beast.cell : to;
            }
            dawnComes(world);
        }
        return count(3);
    }

    int seed(int v) {
        int was = world.z;
        world.z = v;
        return was;
    }

    // ---- what is, what would be

    long land(int fence, int what) {
        if (noPen(fence) || out(what, 0, 1)) {
            return wrong(Due.BEYOND);
        }
        boolean[] inside = inside(world.pens.get(fence));
        long set = 0;
        for (int cell = 0; cell < 64; cell++) {
            if (what == 0 ? world.pens.get(fence).posts.contains(cell) : inside[cell]) {
                set += 1L << cell;
            }
        }
        return set;
    }

    int then(int fence, int n, int what) {
        if (noPen(fence) || out(n, 0, 60) || out(what, 0, 1)) {
            return wrong(Due.BEYOND);
        }
        World w = world.copy();
        for (int i = 0; i < n; i++) {
            dawnComes(w);
        }
        return what == 0 ? acres(w.pens.get(fence)) : w.pens.get(fence).rich;
    }

    int first(int cell, int what) {
        if (out(cell, 0, 63) || out(what, 0, 1)) {
            return wrong(Due.BEYOND);
        }
        World w = world.copy();
        for (int times = 0; times <= 60; times++) {
            int brand = brand(w, cell);
            if (brand >= 0) {
                return what == 0 ? times : brand;
            }
            postsMove(w);
        }
        return wrong(Due.NONE);
    }

    private boolean insideThen(int fence, int cell, int n, int... salted) {
        World w = new World();
        w.pens.add(world.pens.get(fence).copy());
        w.salt = world.salt.clone();
        w.water = world.water;
        w.dawn = world.dawn;
        for (int each : salted) {
            w.salt[each] = true;
        }
        for (int i = 0; i < n; i++) {
            postsMove(w);
        }
        return inside(w.pens.get(0))[cell];
    }

    private int[] saltsFor(int fence, int cell, int n) {
        if (insideThen(fence, cell, n)) {
            return new int[0];
        }
        for (int a = 0; a < 64; a++) {
            if (!world.salt[a] && insideThen(fence, cell, n, a)) {
                return new int[] {a};
            }
        }
        for (int a = 0; a < 64; a++) {
            for (int b = a + 1; b < 64; b++) {
                if (!world.salt[a] && !world.salt[b] && insideThen(fence, cell, n, a, b)) {
                    return new int[] {a, b};
                }
            }
        }
        return null;
    }

    int salts(int fence, int cell, int n, int what) {
        if (noPen(fence) || out(cell, 0, 63) || out(n, 0, 6) || out(what, -1, 1)) {
            return wrong(Due.BEYOND);
        }
        int[] set = saltsFor(fence, cell, n);
        if (set == null) {
            return wrong(Due.NONE);
        }
        return what == -1 ? set.length : what < set.length ? set[what] : -1;
    }

    int way(int cow, int cell) {
        if (noBeast(cow) || out(cell, 0, 63)) {
            return wrong(Due.BEYOND);
        }
        World w = world.copy();
        boolean[] may = new boolean[64];
        may[world.herd.get(cow).cell] = true;
        for (int times = 0; times <= 60; times++) {
            if (may[cell]) {
                return times;
            }
            postsMove(w);
            boolean[] next = may.clone();
            for (int from = 0; from < 64; from++) {
                for (int way = 0; way < 4; way++) {
                    int to = step(from, way);
                    boolean barred = to < 0;
                    for (Pen pen : w.pens) {
                        barred |= pen.posts.contains(to);
                    }
                    if (may[from] && !barred) {
                        next[to] = true;
                    }
                }
            }
            may = next;
        }
        return wrong(Due.NONE);
    }

    int odds(int part) {
        if (out(part, 0, 1)) {
            return wrong(Due.BEYOND);
        }
        int above = 0;
        for (int cell = 0; cell < 64; cell++) {
            above += brand(world, cell) >= 0 ? 1 : 0;
        }
        int most = 1;
        for (int by = 1; by <= 64; by++) {
            most = above % by == 0 && 64 % by == 0 ? by : most;
        }
        return part == 0 ? above / most : 64 / most;
    }

    int fits(int sheet, int fence) {
        if (out(sheet, 0, 3) || noPen(fence)) {
            return wrong(Due.BEYOND);
        }
        if (sheets[sheet] == null) {
            return wrong(Due.NONE);
        }
        World w = world.copy();
        for (int times = 0; times <= 60; times++) {
            List<Integer> posts = w.pens.get(fence).posts;
            boolean all = posts.size() == sheets[sheet].length;
            for (int i = 0; all && i < posts.size(); i++) {
                all = posts.get(i) == sheets[sheet][i];
            }
            if (all) {
                return times;
            }
            postsMove(w);
        }
        return wrong(Due.NONE);
    }

    // ---- voices, sheets, images, what is told

    /** A FENCE with its voices; each KIND is a class, super is what Java says. */
    private static class Speaker {
        final int k;
        final int m;
        final List<Integer> begun = new ArrayList<>();

        Speaker(int k, int m) {
            this.k = k;
            this.m = m;
        }

        int sings(int x) {
            begun.add(10);
            return x + k;
        }

        int leans(int x) {
            begun.add(11);
            return sings(x) * 2;
        }

        int sprouts(int x) {
            begun.add(12);
            return leans(x) - m;
        }

        int parts(int x) {
            begun.add(13);
            return x / (m - k);
        }
    }

    private static class North extends Speaker {
        North(int k, int m) {
            super(k, m);
        }

        @Override
        int sings(int x) {
            begun.add(20);
            return super.sings(x) - 4;
        }

        @Override
        int parts(int x) {
            begun.add(21);
            return super.parts(x) + leans(1);
        }
    }

    private static class Lag extends Speaker {
        Lag(int k, int m) {
            super(k, m);
        }

        @Override
        int leans(int x) {
            begun.add(30);
            return 0 - super.leans(x);
        }
    }

    private static final class Turn extends Speaker {
        Turn(int k, int m) {
            super(k, m);
        }

        @Override
        int sprouts(int x) {
            begun.add(40);
            return super.sprouts(x / 2);
        }
    }

    private static final class Pole extends North {
        Pole(int k, int m) {
            super(k, m);
        }

        @Override
        int sings(int x) {
            begun.add(50);
            return super.sings(x) * 3;
        }

        @Override
        int sprouts(int x) {
            begun.add(51);
            return super.sprouts(x) ^ k;
        }
    }

    private static final class Step extends Lag {
        Step(int k, int m) {
            super(k, m);
        }

        @Override
        int leans(int x) {
            begun.add(60);
            return super.leans(x + 1);
        }
    }

    private static final class Hedged extends Speaker {
        Hedged(int k, int m) {
            super(k, m);
        }

        @Override
        int sings(int x) {
            begun.add(70);
            return 9;
        }

        @Override
        int leans(int x) {
            begun.add(71);
            return super.leans(x) + m;
        }
    }

    private static Speaker speaker(int kind, int k, int m) {
        switch (kind) {
            case 0: return new Speaker(k, m);
            case 1: return new North(k, m);
            case 2: return new Lag(k, m);
            case 3: return new Turn(k, m);
            case 4: return new Pole(k, m);
            case 5: return new Step(k, m);
            default: return new Hedged(k, m);
        }
    }

    int voice(int fence, int voice, int x) {
        if (noPen(fence) || out(voice, 0, 3)) {
            return wrong(Due.BEYOND);
        }
        Speaker it = speaker(world.pens.get(fence).kind, fence, world.pens.get(fence).m);
        trace = it.begun;
        try {
            return voice == 0 ? it.sings(x) : voice == 1 ? it.leans(x) : voice == 2 ? it.sprouts(x) : it.parts(x);
        } catch (ArithmeticException parted) {
            return wrong(Due.PARTED);
        }
    }

    int body(int i) {
        return out(i, 0, trace.size() - 1) ? wrong(Due.NONE) : trace.get(i);
    }

    int sheet(int sheet, int bits, int n) {
        if (out(sheet, 0, 3) || !List.of(0, 8, 16, 32).contains(bits)) {
            return wrong(Due.BEYOND);
        }
        if (bits == 0) {
            sheets[sheet] = null;
            return 1;
        }
        if (n < 0) {
            return wrong(Due.STATE);
        }
        if (n > 24) {
            return wrong(Due.BEYOND);
        }
        sheets[sheet] = new long[n];
        sheetBits[sheet] = bits;
        return 1;
    }

    int put(int sheet, int i, int v) {
        if (out(sheet, 0, 3)) {
            return wrong(Due.BEYOND);
        }
        if (sheets[sheet] == null) {
            return wrong(Due.NONE);
        }
        if (out(i, 0, sheets[sheet].length - 1)) {
            return wrong(Due.BEYOND);
        }
        long all = 1L << sheetBits[sheet];
        long low = Math.floorMod((long) v, all);
        sheets[sheet][i] = low >= all / 2 ? low - all : low;
        return 1;
    }

    int move(int sheet, int i, int other, int j, int n) {
        if (out(sheet, 0, 3) || out(other, 0, 3)) {
            return wrong(Due.BEYOND);
        }
        if (sheets[sheet] == null || sheets[other] == null) {
            return wrong(Due.NONE);
        }
        if (sheetBits[sheet] != sheetBits[other]) {
            return wrong(Due.KIND);
        }
        if (n < 0 || i < 0 || j < 0 || (long) i + n > sheets[sheet].length || (long) j + n > sheets[other].length) {
            return wrong(Due.BEYOND);
        }
        long[] numbers = Arrays.copyOfRange(sheets[sheet], i, i + n);
        for (int each = 0; each < n; each++) {
            sheets[other][j + each] = numbers[each];
        }
        return n;
    }

    int sets(int fence, int sheet) {
        if (noPen(fence) || out(sheet, 0, 3)) {
            return wrong(Due.BEYOND);
        }
        if (sheets[sheet] == null) {
            return wrong(Due.NONE);
        }
        List<Integer> posts = world.pens.get(fence).posts;
        posts.clear();
        for (long number : sheets[sheet]) {
            if (number < 0 || number > 63 || posts.size() == 8) {
                break;
            }
            posts.add((int) number);
        }
        return posts.size();
    }

    int judge(int sheet) {
        if (out(sheet, 0, 3)) {
            return wrong(Due.BEYOND);
        }
        if (sheets[sheet] == null) {
            return wrong(Due.NONE);
        }
        int right = 0;
        for (long number : sheets[sheet]) {
            if (right >= world.herd.size() || brand(world, world.herd.get(right).cell) != number) {
                break;
            }
            right++;
        }
        return right;
    }

    int image() {
        kept = world.copy();
        return ++images;
    }

    int restore() {
        if (kept == null) {
            return wrong(Due.NONE);
        }
        world = kept.copy();
        return world.dawn;
    }

    int tell(int v) {
        if (world.waiting.size() == 24) {
            return wrong(Due.FULL);
        }
        world.waiting.add(v);
        return world.waiting.size();
    }

    int check() {
        List<Integer> numbers = world.waiting;
        world.waiting = new ArrayList<>();
        for (int i = 0; i < numbers.size(); i++) {
            if (i >= world.pens.size() || world.pens.get(i).rich != numbers.get(i)) {
                return 1 + i;
            }
        }
        return 0;
    }

    int count(int what) {
        if (out(what, 0, 8)) {
            return wrong(Due.BEYOND);
        }
        int salted = 0;
        int wet = 0;
        for (int cell = 0; cell < 64; cell++) {
            salted += world.salt[cell] ? 1 : 0;
            wet += world.water[cell] ? 1 : 0;
        }
        int[] all = {world.pens.size(), world.herd.size(), world.dawn, salted, wet, world.tape.length(),
            world.waiting.size(), trace.size(), world.z};
        return all[what];
    }

    int told(int k) {
        return out(k, 1, 6) ? wrong(Due.BEYOND) : errors[k];
    }
}
