/**
 * Fences that walk about a range of 64 CELLS by themselves. Words in capitals here are the document's.
 */
public final class WalkFences {

    private static final int LOW = -1000000000;

    // An ERROR is LOW less one of these.
    private static final int BEYOND = 1;
    private static final int NONE = 2;
    private static final int STATE = 3;
    private static final int FULL = 4;
    private static final int OTHER_KIND = 5;
    private static final int PARTED = 6;

    private static final int FENCE = 0;
    private static final int NORTHERN = 1;
    private static final int LAGGING = 2;
    private static final int TURNER = 3;
    private static final int POLAR = 4;
    private static final int STILE = 5;
    private static final int HEDGE = 6;

    /** The KIND that each KIND is under. */
    private static final int[] ABOVE = {-1, FENCE, FENCE, FENCE, NORTHERN, LAGGING, FENCE};

    private static final int HIGHEST_KM = 69;
    private static final int HIGHEST_DAWN = 9999;
    private static final int MOST_THOUGHT = 60;
    private static final int MOST_DAWNS = 60;
    private static final int MOST_DRAWN_DAWNS = 20;
    private static final int MOST_SALTED_MOVES = 6;
    private static final int SHEETS = 4;

    /** No set of at most two CELLS looks like this one of all. */
    private static final long NO_SET = -1L;

    private final Range now = new Range();
    private final Range kept = new Range();
    private final Range thought = new Range();
    private final TextReader reader = new TextReader();
    private final Voices voices = new Voices();
    private final Sheet[] sheets = new Sheet[SHEETS];
    private final int[] errors = new int[PARTED + 1];
    private int images;

    public WalkFences() {
        for (int i = 0; i < SHEETS; i++) {
            sheets[i] = new Sheet();
        }
    }

    // ---- fences, cattle

    public int fence(int km, int heading) {
        if (!isKm(km) || !isWay(heading)) {
            return error(BEYOND);
        }
        if (now.fenceCount >= Range.MOST_FENCES) {
            return error(FULL);
        }
        now.fences[now.fenceCount].begin(km, heading);
        now.fenceCount++;
        return now.fenceCount - 1;
    }

    public int post(int fence, int cell) {
        if (!isFence(fence) || !Ground.isCell(cell)) {
            return error(BEYOND);
        }
        Fence it = now.fences[fence];
        if (it.posts >= Fence.MOST_POSTS) {
            return error(FULL);
        }
        it.cells[it.posts] = cell;
        it.posts++;
        return it.posts;
    }

    public int fenceIs(int fence, int what) {
        if (!isFence(fence)) {
            return error(BEYOND);
        }
        Fence it = now.fences[fence];
        switch (what) {
            case 0: return it.kind;
            case 1: return it.m;
            case 2: return it.heading;
            case 3: return it.posts;
            case 4: return it.rich;
            case 5: return Long.bitCount(it.inside());
            case 6: return now.graze(it, it.inside());
            default: return error(BEYOND);
        }
    }

    public int at(int fence, int post) {
        if (!isPost(fence, post)) {
            return error(BEYOND);
        }
        return now.fences[fence].cells[post];
    }

    public int heads(int fence, int post) {
        if (!isPost(fence, post)) {
            return error(BEYOND);
        }
        return now.fences[fence].headsAt(post, now.dawn);
    }

    public int become(int fence, int km) {
        if (!isFence(fence) || !isKm(km)) {
            return error(BEYOND);
        }
        Fence it = now.fences[fence];
        int was = it.kind;
        it.kind = km / 10;
        it.m = km % 10;
        return was;
    }

    public int as(int fence, int kind) {
        if (!isFence(fence) || kind < FENCE || kind > HEDGE) {
            return error(BEYOND);
        }
        Fence it = now.fences[fence];
        return isOfKind(it.kind, kind) ? it.m : error(OTHER_KIND);
    }

    public int turn(int fence, int heading) {
        if (!isFence(fence) || !isWay(heading)) {
            return error(BEYOND);
        }
        int was = now.fences[fence].heading;
        now.fences[fence].heading = heading;
        return was;
    }

    public int cut(int fence) {
        if (!isFence(fence)) {
            return error(BEYOND);
        }
        Fence it = now.fences[fence];
        if (it.posts <= 0) {
            return error(STATE);
        }
        it.posts--;
        return it.posts;
    }

    public int lay(int what, int cell, int is) {
        if (what < 0 || what > 1 || !Ground.isCell(cell) || is < 0 || is > 1) {
            return error(BEYOND);
        }
        long had = what == 0 ? now.salt : now.water;
        long has = is == 1 ? had | Ground.bit(cell) : had & ~Ground.bit(cell);
        if (what == 0) {
            now.salt = has;
        } else {
            now.water = has;
        }
        return Ground.has(had, cell) ? 1 : 0;
    }

    public int cow(int cell) {
        if (!Ground.isCell(cell)) {
            return error(BEYOND);
        }
        if (now.cows >= Range.MOST_CATTLE) {
            return error(FULL);
        }
        now.cowCells[now.cows] = cell;
        now.fats[now.cows] = 0;
        now.cows++;
        return now.cows - 1;
    }

    public int cowIs(int cow, int what) {
        if (!isCow(cow)) {
            return error(BEYOND);
        }
        switch (what) {
            case 0: return now.cowCells[cow];
            case 1: return now.fats[cow];
            case 2:
                now.lookInside();
                return now.brandSeen(now.cowCells[cow]);
            default: return error(BEYOND);
        }
    }

    public int drive(int cow, int cell) {
        if (!isCow(cow) || !Ground.isCell(cell)) {
            return error(BEYOND);
        }
        int was = now.cowCells[cow];
        now.cowCells[cow] = cell;
        return was;
    }

    // ---- texts

    public int feed(long word, int n) {
        if (n < 1 || n > 8) {
            return error(BEYOND);
        }
        if (now.taped + n > Range.MOST_BYTES) {
            return error(FULL);
        }
        for (int i = 0; i < n; i++) {
            now.tape[now.taped] = (byte) (word >>> (8 * i));
            now.taped++;
        }
        return now.taped;
    }

    public int text(int use) {
        if (!isUse(use)) {
            return error(BEYOND);
        }
        int fault = reader.faultOf(now.tape, now.taped, Law.namesOf(use));
        now.taped = 0;
        if (fault >= 0) {
            return -10 - fault;
        }
        now.laws[use].takeCode(reader.code, reader.length);
        return 1;
    }

    public int untell(int use) {
        if (!isUse(use)) {
            return error(BEYOND);
        }
        int had = now.laws[use].length > 0 ? 1 : 0;
        now.laws[use].length = 0;
        return had;
    }

    public int law(int use, int a, int b, int c) {
        if (!isUse(use)) {
            return error(BEYOND);
        }
        return now.laws[use].gives(a, b, c);
    }

    // ---- dawns

    public int dawns(int n) {
        if (n < 1 || n > MOST_DAWNS) {
            return error(BEYOND);
        }
        if (now.dawn + n > HIGHEST_DAWN) {
            return error(STATE);
        }
        now.dawnsCome(n);
        return now.dawn;
    }

    public int loose(int n) {
        if (n < 1 || n > MOST_DRAWN_DAWNS) {
            return error(BEYOND);
        }
        if (now.dawn + n > HIGHEST_DAWN) {
            return error(STATE);
        }
        for (int i = 0; i < n; i++) {
            now.strayByDraws();
            now.dawnsCome(1);
        }
        return Long.bitCount(now.salt);
    }

    public int seed(int v) {
        int was = now.z;
        now.z = v;
        return was;
    }

    // ---- what is, what would be

    public long land(int fence, int what) {
        if (!isFence(fence) || what < 0 || what > 1) {
            return error(BEYOND);
        }
        return what == 0 ? now.fences[fence].standing() : now.fences[fence].inside();
    }

    public int then(int fence, int n, int what) {
        if (!isFence(fence) || n < 0 || n > MOST_THOUGHT || what < 0 || what > 1) {
            return error(BEYOND);
        }
        thought.takeAll(now);
        thought.dawnsCome(n);
        Fence it = thought.fences[fence];
        return what == 0 ? Long.bitCount(it.inside()) : it.rich;
    }

    public int first(int cell, int what) {
        if (!Ground.isCell(cell) || what < 0 || what > 1) {
            return error(BEYOND);
        }
        thought.takeAll(now);
        for (int times = 0; times <= MOST_THOUGHT; times++) {
            thought.lookInside();
            int brand = thought.brandSeen(cell);
            if (brand >= 0) {
                return what == 0 ? times : brand;
            }
            thought.postsMove();
        }
        return error(NONE);
    }

    public int salts(int fence, int cell, int n, int what) {
        if (!isFence(fence) || !Ground.isCell(cell) || n < 0 || n > MOST_SALTED_MOVES || what < -1 || what > 1) {
            return error(BEYOND);
        }
        long set = fewestSalts(fence, cell, n);
        if (set == NO_SET) {
            return error(NONE);
        }
        if (what < 0) {
            return Long.bitCount(set);
        }
        long asked = what == 0 ? set : set & (set - 1);
        return asked == 0 ? -1 : Long.numberOfTrailingZeros(asked);
    }

    public int way(int cow, int cell) {
        if (!isCow(cow) || !Ground.isCell(cell)) {
            return error(BEYOND);
        }
        thought.takeAll(now);
        long reached = Ground.bit(now.cowCells[cow]);
        for (int times = 0; times <= MOST_THOUGHT; times++) {
            if (Ground.has(reached, cell)) {
                return times;
            }
            thought.postsMove();
            reached |= Ground.beside(reached) & ~thought.standing();
        }
        return error(NONE);
    }

    public int odds(int part) {
        if (part < 0 || part > 1) {
            return error(BEYOND);
        }
        now.lookInside();
        int above = Long.bitCount(now.branded());
        int below = Ground.CELLS;
        for (int i = 0; i < Ground.CELLS && above % 2 == 0 && below % 2 == 0; i++) {
            above /= 2;
            below /= 2;
        }
        return part == 0 ? above : below;
    }

    public int fits(int sheet, int fence) {
        if (!isSheet(sheet) || !isFence(fence)) {
            return error(BEYOND);
        }
        if (sheets[sheet].bits == 0) {
            return error(NONE);
        }
        thought.takeAll(now);
        for (int times = 0; times <= MOST_THOUGHT; times++) {
            if (sheets[sheet].tells(thought.fences[fence])) {
                return times;
            }
            thought.postsMove();
        }
        return error(NONE);
    }

    // ---- voices, sheets, images, what is told

    public int voice(int fence, int voice, int x) {
        if (!isFence(fence) || voice < Voices.SINGS || voice > Voices.PARTS) {
            return error(BEYOND);
        }
        Fence it = now.fences[fence];
        int answer = voices.answer(voice, it.kind, it.m, fence, x);
        // THE TRACE is of this voice() even so: its BODIES began.
        return voices.parted ? error(PARTED) : answer;
    }

    public int body(int i) {
        if (i < 0 || i >= voices.begun) {
            return error(NONE);
        }
        return voices.bodies[i];
    }

    public int sheet(int sheet, int bits, int n) {
        if (!isSheet(sheet) || !Sheet.isBits(bits)) {
            return error(BEYOND);
        }
        if (bits != 0 && n < 0) {
            return error(STATE);
        }
        if (bits != 0 && n > Sheet.MOST_NUMBERS) {
            return error(BEYOND);
        }
        sheets[sheet].begin(bits, bits == 0 ? 0 : n);
        return 1;
    }

    public int put(int sheet, int i, int v) {
        if (!isSheet(sheet)) {
            return error(BEYOND);
        }
        Sheet it = sheets[sheet];
        if (it.bits == 0) {
            return error(NONE);
        }
        if (i < 0 || i >= it.size) {
            return error(BEYOND);
        }
        it.numbers[i] = it.lowestBits(v);
        return 1;
    }

    public int move(int sheet, int i, int other, int j, int n) {
        if (!isSheet(sheet) || !isSheet(other)) {
            return error(BEYOND);
        }
        Sheet from = sheets[sheet];
        Sheet to = sheets[other];
        if (from.bits == 0 || to.bits == 0) {
            return error(NONE);
        }
        if (from.bits != to.bits) {
            return error(OTHER_KIND);
        }
        if (!from.hasPart(i, n) || !to.hasPart(j, n)) {
            return error(BEYOND);
        }
        System.arraycopy(from.numbers, i, to.numbers, j, n);
        return n;
    }

    public int sets(int fence, int sheet) {
        if (!isFence(fence) || !isSheet(sheet)) {
            return error(BEYOND);
        }
        Sheet it = sheets[sheet];
        if (it.bits == 0) {
            return error(NONE);
        }
        now.fences[fence].standAt(it.numbers, it.size);
        return now.fences[fence].posts;
    }

    public int judge(int sheet) {
        if (!isSheet(sheet)) {
            return error(BEYOND);
        }
        Sheet it = sheets[sheet];
        if (it.bits == 0) {
            return error(NONE);
        }
        now.lookInside();
        int right = 0;
        while (right < it.size && right < now.cows
                && it.numbers[right] == now.brandSeen(now.cowCells[right])) {
            right++;
        }
        return right;
    }

    public int image() {
        kept.takeAll(now);
        images++;
        return images;
    }

    public int restore() {
        if (images == 0) {
            return error(NONE);
        }
        now.takeAll(kept);
        return now.dawn;
    }

    public int tell(int v) {
        if (now.waitingCount >= Range.MOST_WAITING) {
            return error(FULL);
        }
        now.waiting[now.waitingCount] = v;
        now.waitingCount++;
        return now.waitingCount;
    }

    public int check() {
        int right = 0;
        while (right < now.waitingCount && right < now.fenceCount
                && now.waiting[right] == now.fences[right].rich) {
            right++;
        }
        boolean all = right == now.waitingCount;
        now.waitingCount = 0;
        return all ? 0 : right + 1;
    }

    public int count(int what) {
        switch (what) {
            case 0: return now.fenceCount;
            case 1: return now.cows;
            case 2: return now.dawn;
            case 3: return Long.bitCount(now.salt);
            case 4: return Long.bitCount(now.water);
            case 5: return now.taped;
            case 6: return now.waitingCount;
            case 7: return voices.begun;
            case 8: return now.z;
            default: return error(BEYOND);
        }
    }

    public int told(int k) {
        if (k < BEYOND || k > PARTED) {
            return error(BEYOND);
        }
        return errors[k];
    }

    // ---- what the calls share

    private int error(int number) {
        if (number >= 0 && number < errors.length) {
            errors[number]++;
        }
        return LOW - number;
    }

    private boolean isFence(int fence) {
        return fence >= 0 && fence < now.fenceCount;
    }

    private boolean isPost(int fence, int post) {
        return isFence(fence) && post >= 0 && post < now.fences[fence].posts;
    }

    private boolean isCow(int cow) {
        return cow >= 0 && cow < now.cows;
    }

    private static boolean isKm(int km) {
        return km >= 0 && km <= HIGHEST_KM;
    }

    private static boolean isWay(int heading) {
        return heading >= 0 && heading < Ground.WAYS;
    }

    private static boolean isUse(int use) {
        return use == Law.GRAZE || use == Law.FEED;
    }

    private static boolean isSheet(int sheet) {
        return sheet >= 0 && sheet < SHEETS;
    }

    private static boolean isOfKind(int kind, int asked) {
        int up = kind;
        for (int i = 0; i < ABOVE.length && up >= 0 && up < ABOVE.length; i++) {
            if (up == asked) {
                return true;
            }
            up = ABOVE[up];
        }
        return false;
    }

    /** The set that SALTS tells, or NO_SET. */
    private long fewestSalts(int fence, int cell, int n) {
        if (isInsideSalted(fence, cell, n, 0L)) {
            return 0L;
        }
        // SALT elsewhere changes nothing, so that a set with such a CELL is never of the fewest.
        long tried = now.fences[fence].tried(now.dawn, n) & ~now.salt;
        for (int a = 0; a < Ground.CELLS; a++) {
            if (Ground.has(tried, a) && isInsideSalted(fence, cell, n, Ground.bit(a))) {
                return Ground.bit(a);
            }
        }
        for (int a = 0; a < Ground.CELLS; a++) {
            for (int b = a + 1; b < Ground.CELLS && Ground.has(tried, a); b++) {
                long set = Ground.bit(a) | Ground.bit(b);
                if (Ground.has(tried, b) && isInsideSalted(fence, cell, n, set)) {
                    return set;
                }
            }
        }
        return NO_SET;
    }

    private boolean isInsideSalted(int fence, int cell, int n, long more) {
        Fence it = thought.fences[fence];
        it.takeAll(now.fences[fence]);
        for (int i = 0; i < n; i++) {
            it.postsMove(now.salt | more, now.water, now.dawn + i);
        }
        return Ground.has(it.inside(), cell);
    }

    /** Sets of CELLS, a bit each, and what is beside what. */
    private static final class Ground {
        static final int CELLS = 64;
        static final int WAYS = 4;
        static final int UP = 0;
        static final int RIGHT = 1;
        static final int DOWN = 2;
        static final int LEFT = 3;

        private static final long FIRST_PLACES = 0x0101010101010101L;
        private static final long LAST_PLACES = 0x8080808080808080L;
        private static final long RIM = 0xFF818181818181FFL;

        static boolean isCell(int cell) {
            return cell >= 0 && cell < CELLS;
        }

        static long bit(int cell) {
            return 1L << cell;
        }

        static boolean has(long cells, int cell) {
            return (cells >>> cell & 1L) != 0;
        }

        /** The CELL next to one, or -1 beyond the rim. */
        static int next(int cell, int heading) {
            switch (heading) {
                case UP: return cell >= 8 ? cell - 8 : -1;
                case RIGHT: return cell % 8 < 7 ? cell + 1 : -1;
                case DOWN: return cell < 56 ? cell + 8 : -1;
                case LEFT: return cell % 8 > 0 ? cell - 1 : -1;
                default: return -1;
            }
        }

        /** The CELLS next to those of a set. */
        static long nextOf(long cells, int heading) {
            switch (heading) {
                case UP: return cells >>> 8;
                case RIGHT: return (cells & ~LAST_PLACES) << 1;
                case DOWN: return cells << 8;
                case LEFT: return (cells & ~FIRST_PLACES) >>> 1;
                default: return 0L;
            }
        }

        static long beside(long cells) {
            return nextOf(cells, UP) | nextOf(cells, RIGHT) | nextOf(cells, DOWN) | nextOf(cells, LEFT);
        }

        static long inside(long posts) {
            long free = ~posts;
            long reached = RIM & free;
            for (int i = 0; i < CELLS; i++) {
                long more = reached | beside(reached) & free;
                if (more == reached) {
                    break;
                }
                reached = more;
            }
            return free & ~reached;
        }
    }

    /** One of the FENCES. */
    private static final class Fence {
        static final int MOST_POSTS = 8;
        static final int MOST_RICH = 99999;

        final int[] cells = new int[MOST_POSTS];
        int posts;
        int kind;
        int m;
        int heading;
        int rich;

        void begin(int km, int way) {
            kind = km / 10;
            m = km % 10;
            heading = way;
            posts = 0;
            rich = 0;
        }

        void takeAll(Fence other) {
            System.arraycopy(other.cells, 0, cells, 0, MOST_POSTS);
            posts = other.posts;
            kind = other.kind;
            m = other.m;
            heading = other.heading;
            rich = other.rich;
        }

        /** The CELLS of the POSTS are the numbers ahead of the first that is no CELL. */
        void standAt(int[] numbers, int size) {
            posts = 0;
            while (posts < MOST_POSTS && posts < size && posts < numbers.length && Ground.isCell(numbers[posts])) {
                cells[posts] = numbers[posts];
                posts++;
            }
        }

        /** The WAY where a POST HEADS at a DAWN, or -1 for nowhere. */
        int headsAt(int post, int dawn) {
            switch (kind) {
                case LAGGING: return dawn % 2 == 1 ? -1 : heading;
                case TURNER: return (heading + turnsBy(dawn)) % Ground.WAYS;
                case POLAR: return dawn % 4 >= 2 ? (heading + 2) % Ground.WAYS : heading;
                case STILE: return post == 0 || dawn % 2 == 1 ? -1 : heading;
                case HEDGE: return m == 9 ? heading : -1;
                default: return heading;
            }
        }

        /** How often a TURNER has turned by a DAWN. */
        private int turnsBy(int dawn) {
            int between = m + 1;
            return between > 0 ? dawn / between : 0;
        }

        void postsMove(long salt, long water, int dawn) {
            long barred = isOfKind(kind, NORTHERN) ? salt | water : salt;
            for (int i = 0; i < posts; i++) {
                int to = Ground.next(cells[i], headsAt(i, dawn));
                if (to >= 0 && !Ground.has(barred, to)) {
                    cells[i] = to;
                }
            }
        }

        /** All CELLS to which a POST may try to come in n moves, whatever SALT there is. */
        long tried(int dawn, int n) {
            long all = 0L;
            for (int i = 0; i < posts; i++) {
                long may = Ground.bit(cells[i]);
                for (int j = 0; j < n; j++) {
                    long next = Ground.nextOf(may, headsAt(i, dawn + j));
                    all |= next;
                    may |= next;
                }
            }
            return all;
        }

        long standing() {
            long all = 0L;
            for (int i = 0; i < posts; i++) {
                all |= Ground.bit(cells[i]);
            }
            return all;
        }

        long inside() {
            return Ground.inside(standing());
        }
    }

    /** All that an IMAGE keeps. */
    private static final class Range {
        static final int MOST_FENCES = 4;
        static final int MOST_CATTLE = 6;
        static final int MOST_FAT = 999;
        static final int MOST_BYTES = 60;
        static final int MOST_WAITING = 24;

        final Fence[] fences = new Fence[MOST_FENCES];
        int fenceCount;
        final int[] cowCells = new int[MOST_CATTLE];
        final int[] fats = new int[MOST_CATTLE];
        int cows;
        long salt;
        long water;
        int dawn;
        int z = 1;
        final byte[] tape = new byte[MOST_BYTES];
        int taped;
        final Law[] laws = new Law[2];
        final int[] waiting = new int[MOST_WAITING];
        int waitingCount;

        /** INSIDE of each FENCE when it was looked at last. */
        private final long[] seen = new long[MOST_FENCES];

        Range() {
            for (int i = 0; i < MOST_FENCES; i++) {
                fences[i] = new Fence();
            }
            laws[Law.GRAZE] = new Law(Law.GRAZE);
            laws[Law.FEED] = new Law(Law.FEED);
        }

        void takeAll(Range other) {
            for (int i = 0; i < MOST_FENCES; i++) {
                fences[i].takeAll(other.fences[i]);
            }
            fenceCount = other.fenceCount;
            System.arraycopy(other.cowCells, 0, cowCells, 0, MOST_CATTLE);
            System.arraycopy(other.fats, 0, fats, 0, MOST_CATTLE);
            cows = other.cows;
            salt = other.salt;
            water = other.water;
            dawn = other.dawn;
            z = other.z;
            System.arraycopy(other.tape, 0, tape, 0, MOST_BYTES);
            taped = other.taped;
            for (int i = 0; i < laws.length; i++) {
                laws[i].takeCode(other.laws[i].code, other.laws[i].length);
            }
            System.arraycopy(other.waiting, 0, waiting, 0, MOST_WAITING);
            waitingCount = other.waitingCount;
        }

        void postsMove() {
            for (int i = 0; i < fenceCount; i++) {
                fences[i].postsMove(salt, water, dawn);
            }
            dawn++;
        }

        void dawnsCome(int n) {
            for (int i = 0; i < n; i++) {
                postsMove();
                lookInside();
                fencesGraze();
                cattleFeed();
            }
        }

        private void fencesGraze() {
            for (int i = 0; i < fenceCount; i++) {
                Fence it = fences[i];
                it.rich = Math.min(Fence.MOST_RICH, it.rich + graze(it, seen[i]));
            }
        }

        private void cattleFeed() {
            for (int i = 0; i < cows; i++) {
                int more = laws[Law.FEED].gives(cowCells[i], brandSeen(cowCells[i]), dawn % 7);
                fats[i] = Math.max(0, Math.min(MOST_FAT, fats[i] + more));
            }
        }

        int graze(Fence it, long inside) {
            return laws[Law.GRAZE].gives(Long.bitCount(inside), it.posts, it.kind);
        }

        void strayByDraws() {
            salt ^= Ground.bit(draw() % Ground.CELLS);
            if (cows > 0) {
                int cow = draw() % cows;
                int to = Ground.next(cowCells[cow], draw() % Ground.WAYS);
                if (to >= 0) {
                    cowCells[cow] = to;
                }
            }
        }

        private int draw() {
            z = z * 1103515245 + 12345;
            return z >>> 8;
        }

        long standing() {
            long all = 0L;
            for (int i = 0; i < fenceCount; i++) {
                all |= fences[i].standing();
            }
            return all;
        }

        void lookInside() {
            for (int i = 0; i < fenceCount; i++) {
                seen[i] = fences[i].inside();
            }
        }

        /** The BRAND of a CELL, when the FENCES were looked INSIDE last. */
        int brandSeen(int cell) {
            for (int i = 0; i < fenceCount; i++) {
                if (Ground.has(seen[i], cell)) {
                    return i;
                }
            }
            return -1;
        }

        /** The CELLS that had a BRAND, when the FENCES were looked INSIDE last. */
        long branded() {
            long all = 0L;
            for (int i = 0; i < fenceCount; i++) {
                all |= seen[i];
            }
            return all;
        }
    }

    /** What a USE gives: its TEXT, operands ahead of their signs, or what holds without one. */
    private static final class Law {
        static final int GRAZE = 0;
        static final int FEED = 1;

        private final int use;
        private final int[] stack = new int[Range.MOST_BYTES];
        final int[] code = new int[Range.MOST_BYTES];

        /** 0: there is no TEXT. */
        int length;

        Law(int use) {
            this.use = use;
        }

        static String namesOf(int use) {
            return use == GRAZE ? "apk" : "cbd";
        }

        void takeCode(int[] other, int size) {
            length = Math.max(0, Math.min(size, Math.min(other.length, code.length)));
            System.arraycopy(other, 0, code, 0, length);
        }

        int gives(int a, int b, int c) {
            if (use == GRAZE) {
                int worth = length > 0 ? workedOut(a, b, c) : a + b;
                return Math.max(0, Math.min(999, worth));
            }
            int worth = length > 0 ? workedOut(a, b, c) : b + 1;
            return Math.max(-9, Math.min(9, worth));
        }

        private int workedOut(int a, int b, int c) {
            int top = 0;
            for (int i = 0; i < length; i++) {
                int token = code[i];
                if (token == TextReader.NOT) {
                    if (top >= 1) {
                        stack[top - 1] = truth(stack[top - 1] == 0);
                    }
                } else if (token < TextReader.LAST_NAME) {
                    if (top >= 2) {
                        top--;
                        stack[top - 1] = joined(-token, stack[top - 1], stack[top]);
                    }
                } else if (top < stack.length) {
                    stack[top] = token >= 0 ? token : token == -1 ? a : token == -2 ? b : c;
                    top++;
                }
            }
            return stack[0];
        }

        private static int joined(int sign, int left, int right) {
            switch (sign) {
                case '|': return truth(left != 0 || right != 0);
                case '&': return truth(left != 0 && right != 0);
                case '<': return truth(left < right);
                case '=': return truth(left == right);
                case '>': return truth(left > right);
                case '+': return left + right;
                case '-': return left - right;
                case '*': return left * right;
                case '/': return right == 0 ? 0 : left / right;
                default: return right == 0 ? 0 : left % right;
            }
        }

        private static int truth(boolean is) {
            return is ? 1 : 0;
        }
    }

    /** Reads THE TAPE: finds its FAULT, or the code of its TEXT. */
    private static final class TextReader {
        /** In the code a NUMBER is itself, the NAMES are -1, -2, -3, and a sign is 0 less its byte. */
        static final int LAST_NAME = -3;
        static final int NOT = -'!';

        private static final int MOST_OPEN = 5;
        private static final int MOST_DIGITS = 4;

        // T, A, B, S, P, Q of the document, each level joining those behind it.
        private static final int LEVEL_T = 0;
        private static final int LEVEL_B = 2;
        private static final int LEVEL_Q = 5;

        final int[] code = new int[Range.MOST_BYTES];
        int length;
        private byte[] bytes = new byte[0];
        private int size;
        private int place;
        private String names = "";

        /** The FAULT, or -1 when the code is that of the TEXT. */
        int faultOf(byte[] tape, int taped, String itsNames) {
            bytes = tape;
            size = Math.min(taped, tape.length);
            names = itsNames;
            place = 0;
            length = 0;
            boolean whole = readLevel(LEVEL_T, 0) && place == size;
            return whole ? -1 : place;
        }

        /** Where it answers false, place is the FAULT. */
        private boolean readLevel(int level, int open) {
            if (level >= LEVEL_Q) {
                return readQ(open);
            }
            if (!readLevel(level + 1, open)) {
                return false;
            }
            int mostJoins = level == LEVEL_B ? 1 : Range.MOST_BYTES;
            for (int i = 0; i < mostJoins && joins(level, sign()); i++) {
                int sign = sign();
                place++;
                if (!readLevel(level + 1, open)) {
                    return false;
                }
                add(-sign);
            }
            return true;
        }

        private static boolean joins(int level, char sign) {
            switch (sign) {
                case '|': return level == 0;
                case '&': return level == 1;
                case '<': case '=': case '>': return level == 2;
                case '+': case '-': return level == 3;
                case '*': case '/': case '%': return level == 4;
                default: return false;
            }
        }

        private boolean readQ(int open) {
            char sign = sign();
            if (isDigit(sign)) {
                readNumber();
                return true;
            }
            if (sign == '!' || sign == '(') {
                return open < MOST_OPEN && readOpened(sign, open + 1);
            }
            int name = names.indexOf(sign);
            if (name < 0) {
                return false;
            }
            place++;
            add(-1 - name);
            return true;
        }

        private boolean readOpened(char sign, int open) {
            place++;
            if (sign == '!') {
                boolean read = readQ(open);
                add(NOT);
                return read;
            }
            if (!readLevel(LEVEL_T, open) || sign() != ')') {
                return false;
            }
            place++;
            return true;
        }

        private void readNumber() {
            int number = 0;
            for (int i = 0; i < MOST_DIGITS && isDigit(sign()); i++) {
                number = number * 10 + (sign() - '0');
                place++;
            }
            add(number);
        }

        private static boolean isDigit(char sign) {
            return sign >= '0' && sign <= '9';
        }

        /** The byte at the place; behind the last one 0, with which nothing goes on either. */
        private char sign() {
            return place < size ? (char) (bytes[place] & 255) : (char) 0;
        }

        private void add(int token) {
            if (length < code.length) {
                code[length] = token;
                length++;
            }
        }
    }

    /** The VOICES, and THE TRACE of the latest. */
    private static final class Voices {
        static final int SINGS = 0;
        static final int LEANS = 1;
        static final int SPROUTS = 2;
        static final int PARTS = 3;
        static final int MOST_BODIES = 30;

        final int[] bodies = new int[MOST_BODIES];
        int begun;

        /** Whether the latest VOICE came to a BODY that would part by 0; no BODY begins behind that one. */
        boolean parted;
        private int kind;
        private int m;
        private int k;

        int answer(int voice, int itsKind, int itsM, int itsNumber, int x) {
            begun = 0;
            parted = false;
            kind = itsKind;
            m = itsM;
            k = itsNumber;
            switch (voice) {
                case SINGS: return sings(kind, x);
                case LEANS: return leans(kind, x);
                case SPROUTS: return sprouts(kind, x);
                default: return parts(kind, x);
            }
        }

        private void begins(int number) {
            if (begun < MOST_BODIES) {
                bodies[begun] = number;
                begun++;
            }
        }

        // Each answers with the first BODY from a KIND on upwards; super is the KIND above the BODY's.

        private int sings(int from, int x) {
            switch (from) {
                case NORTHERN:
                    begins(20);
                    return sings(FENCE, x) - 4;
                case POLAR:
                    begins(50);
                    return sings(NORTHERN, x) * 3;
                case HEDGE:
                    begins(70);
                    return 9;
                default:
                    begins(10);
                    return x + k;
            }
        }

        private int leans(int from, int x) {
            switch (from) {
                case LAGGING:
                    begins(30);
                    return 0 - leans(FENCE, x);
                case STILE:
                    begins(60);
                    return leans(LAGGING, x + 1);
                case HEDGE:
                    begins(71);
                    return leans(FENCE, x) + m;
                default:
                    begins(11);
                    return sings(kind, x) * 2;
            }
        }

        private int sprouts(int from, int x) {
            switch (from) {
                case TURNER:
                    begins(40);
                    return sprouts(FENCE, x / 2);
                case POLAR:
                    begins(51);
                    return sprouts(NORTHERN, x) ^ k;
                default:
                    begins(12);
                    return leans(kind, x) - m;
            }
        }

        private int parts(int from, int x) {
            switch (from) {
                case NORTHERN: case POLAR:
                    begins(21);
                    int left = parts(FENCE, x);
                    return parted ? 0 : left + leans(kind, 1);
                default:
                    begins(13);
                    int by = m - k;
                    parted = by == 0;
                    return by == 0 ? 0 : x / by;
            }
        }
    }

    /** A row of numbers of 8, 16 or 32 bits. */
    private static final class Sheet {
        static final int MOST_NUMBERS = 24;

        final int[] numbers = new int[MOST_NUMBERS];
        int size;

        /** 0: it is missing. */
        int bits;

        static boolean isBits(int bits) {
            return bits == 0 || bits == 8 || bits == 16 || bits == 32;
        }

        void begin(int itsBits, int n) {
            bits = itsBits;
            size = n;
            for (int i = 0; i < MOST_NUMBERS; i++) {
                numbers[i] = 0;
            }
        }

        int lowestBits(int v) {
            if (bits == 8) {
                return (byte) v;
            }
            return bits == 16 ? (short) v : v;
        }

        boolean hasPart(int from, int n) {
            return from >= 0 && n >= 0 && n <= size && from <= size - n;
        }

        boolean tells(Fence fence) {
            boolean same = size == fence.posts;
            for (int i = 0; same && i < fence.posts; i++) {
                same = numbers[i] == fence.cells[i];
            }
            return same;
        }
    }
}
