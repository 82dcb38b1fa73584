import java.lang.reflect.InvocationTargetException;
import java.lang.reflect.Method;
import java.util.ArrayList;
import java.util.List;

/** Long runs of drawn calls, each answered by the class and by the model of the tests alike. */
final class ModelRunsTest {
    /** A call, how often it is drawn, and between what its numbers mostly lie. */
    private record Call(Method real, Method model, int often, int[] least, int[] most) {
    }

    private final List<Call> calls = new ArrayList<>();
    private final List<Integer> weights = new ArrayList<>();
    private final StringBuilder log = new StringBuilder();
    private WalkFences real;
    private Model model;
    private long state;
    private boolean alike;

    private ModelRunsTest() {
        // how often, and pairs of the least and the most of each parameter
        add("fence", 10, 0, 69, 0, 3);
        add("post", 30, 0, 3, 0, 63);
        add("fenceIs", 30, 0, 3, 0, 6);
        add("at", 20, 0, 3, 0, 7);
        add("heads", 20, 0, 3, 0, 7);
        add("become", 12, 0, 3, 0, 69);
        add("as", 8, 0, 3, 0, 6);
        add("turn", 12, 0, 3, 0, 3);
        add("cut", 8, 0, 3);
        add("lay", 20, 0, 1, 0, 63, 0, 1);
        add("cow", 10, 0, 63);
        add("cowIs", 20, 0, 5, 0, 2);
        add("drive", 15, 0, 5, 0, 63);
        add("feed", 4, Integer.MIN_VALUE, Integer.MAX_VALUE, 1, 8);
        add("text", 4, 0, 1);
        add("untell", 4, 0, 1);
        add("law", 15, 0, 1, -20, 20, -20, 20, -20, 20);
        add("dawns", 20, 1, 12);
        add("loose", 10, 1, 20);
        add("seed", 3, Integer.MIN_VALUE, Integer.MAX_VALUE);
        add("land", 30, 0, 3, 0, 1);
        add("then", 10, 0, 3, 0, 60, 0, 1);
        add("first", 10, 0, 63, 0, 1);
        add("salts", 5, 0, 3, 9, 54, 0, 6, -1, 1);
        add("way", 15, 0, 5, 0, 63);
        add("odds", 10, 0, 1);
        add("fits", 15, 0, 3, 0, 3);
        add("voice", 20, 0, 3, 0, 3, -99, 99);
        add("body", 15, 0, 7);
        add("sheet", 12, 0, 3, 0, 3, 0, 24);
        add("put", 30, 0, 3, 0, 12, -2, 70);
        add("move", 12, 0, 3, 0, 12, 0, 3, 0, 12, 0, 12);
        add("sets", 6, 0, 3, 0, 3);
        add("judge", 10, 0, 3);
        add("image", 5);
        add("restore", 5);
        add("tell", 12, 0, 99);
        add("check", 8);
        add("count", 20, 0, 8);
        add("told", 10, 1, 6);
    }

    static void all() {
        Due.test("promises 1 to 41, the model knows every call", ModelRunsTest::knowsEveryCall);
        for (int part = 0; part < 8; part++) {
            int first = part * 40;
            Due.test("promises 1 to 41, drawn runs from " + first, () -> new ModelRunsTest().runs(first, 40));
        }
        Due.test("promise 16, drawn texts", () -> new ModelRunsTest().texts());
        Due.test("promise 25, drawn salts", () -> new ModelRunsTest().saltings());
    }

    private static void knowsEveryCall() {
        List<String> names = new ArrayList<>();
        for (Call call : new ModelRunsTest().calls) {
            names.add(call.real.getName());
        }
        for (Method each : WalkFences.class.getDeclaredMethods()) {
            if (java.lang.reflect.Modifier.isPublic(each.getModifiers()) && !names.remove(each.getName())) {
                Due.fail("the model is not asked " + each.getName());
            }
        }
        Due.is(names.size(), 0);
    }

    private void add(String name, int often, int... bounds) {
        int n = bounds.length / 2;
        int[] least = new int[n];
        int[] most = new int[n];
        Class<?>[] types = new Class<?>[n];
        for (int i = 0; i < n; i++) {
            least[i] = bounds[2 * i];
            most[i] = bounds[2 * i + 1];
            types[i] = name.equals("feed") && i == 0 ? long.class : int.class;
        }
        try {
            Method ours = WalkFences.class.getMethod(name, types);
            Method other = Model.class.getDeclaredMethod(name, types);
            calls.add(new Call(ours, other, often, least, most));
        } catch (NoSuchMethodException missing) {
            throw new IllegalStateException(missing);
        }
        for (int i = 0; i < often; i++) {
            weights.add(calls.size() - 1);
        }
    }

    private void begin(int seed) {
        real = new WalkFences();
        model = new Model();
        state = seed * 0x9E3779B97F4A7C15L + 1;
        log.setLength(0);
        alike = true;
    }

    private int draw(int n) {
        state = state * 6364136223846793005L + 1442695040888963407L;
        return (int) ((state >>> 33) % n);
    }

    private int between(int least, int most) {
        long span = (long) most - least + 1;
        return span > 1 << 20 ? (int) ((long) draw(1 << 20) * 4099 + draw(4099)) : least + draw((int) span);
    }

    /** Mostly within, now and then at an edge or far out. */
    private int number(int least, int most) {
        int odd = draw(60);
        switch (odd) {
            case 0: return least - 1;
            case 1: return most + 1;
            case 2: return new int[] {Integer.MIN_VALUE, Integer.MAX_VALUE, -1, 64}[draw(4)];
            default: return between(least, most);
        }
    }

    private void ask(String name, Object... given) {
        for (Call call : calls) {
            if (call.real.getName().equals(name)) {
                ask(call, given);
            }
        }
    }

    private void ask(Call call, Object... given) {
        if (!alike) {
            return;
        }
        try {
            long got = ((Number) call.real.invoke(real, given)).longValue();
            long due = ((Number) call.model.invoke(model, given)).longValue();
            log.append(call.real.getName()).append(java.util.Arrays.toString(given)).append(" = ").append(got).append('\n');
            if (got != due) {
                alike = false;
                Due.fail("due is " + due + " behind these calls:\n" + log);
            }
        } catch (IllegalAccessException | InvocationTargetException thrown) {
            alike = false;
            Due.fail("threw " + thrown.getCause() + " behind these calls:\n" + log + call.real.getName()
                    + java.util.Arrays.toString(given));
        }
    }

    private void runs(int first, int n) {
        for (int run = first; run < first + n; run++) {
            begin(run);
            if (run % 5 != 0) {
                furnish();
            }
            if (run % 10 == 1) {
                for (int i = 0; i < 9900 / 60; i++) {
                    real.dawns(60);
                    model.dawns(60);
                }
            }
            for (int i = 0; i < 280 && alike; i++) {
                drawn();
            }
        }
    }

    private void furnish() {
        for (int fence = 0; fence <= draw(4); fence++) {
            ask("fence", draw(70), draw(4));
            enclose(fence);
        }
        for (int cow = 0; cow <= draw(5); cow++) {
            ask("cow", draw(64));
        }
        for (int laid = draw(12); laid > 0; laid--) {
            ask("lay", draw(2), draw(64), 1);
        }
    }

    /** POSTS around a CELL, some of them not quite there. */
    private void enclose(int fence) {
        int centre = 9 + 8 * draw(6) + draw(6);
        for (int step : draw(2) == 0 ? Given.AROUND : Given.BESIDE) {
            ask("post", fence, draw(7) == 0 ? draw(64) : centre + step);
        }
    }

    private void drawn() {
        Call call = calls.get(weights.get(draw(weights.size())));
        String name = call.real.getName();
        if (name.equals("text") && draw(5) > 0) {
            tape(draw(3) == 0 ? spoilt() : written(0, 0));
        }
        if (name.equals("salts")) {
            aimedSalts();
            return;
        }
        if (name.equals("fits") && draw(2) == 0) {
            sheetAhead();
        }
        if (name.equals("tell") && draw(2) == 0) {
            ask("tell", real.fenceIs(model.count(6) % 4, 4));
            model.fenceIs(Math.floorMod(model.count(6) - 1, 4), 4);
        }
        Object[] given = new Object[call.least.length];
        for (int i = 0; i < given.length; i++) {
            int number = number(call.least[i], call.most[i]);
            if (name.equals("sheet") && i == 1 && number >= 0 && number < 4) {
                number = new int[] {0, 8, 16, 32}[number];
            }
            if (name.equals("feed") && i == 0) {
                given[i] = (long) number << 32 ^ number(call.least[i], call.most[i]);
            } else {
                given[i] = number;
            }
        }
        ask(call, given);
    }

    /** A CELL that is or was about to be INSIDE, so that some SALT may help. */
    private void aimedSalts() {
        int fence = draw(4);
        int cell = 9 + 8 * draw(6) + draw(6);
        long posts = real.land(fence, 0);
        model.land(fence, 0);
        if (posts > 0 && draw(4) > 0) {
            cell = Math.floorMod(Long.numberOfTrailingZeros(posts) + new int[] {8, 9, 16, 7, 10}[draw(5)], 64);
        }
        ask("salts", fence, number(cell, cell), number(0, 6), number(-1, 1));
    }

    /** A SHEET of what a FENCE comes to a few moves on. */
    private void sheetAhead() {
        int fence = draw(4);
        int posts = real.fenceIs(fence, 3);
        model.fenceIs(fence, 3);
        if (posts < 0) {
            return;
        }
        ask("image");
        ask("dawns", draw(30) + 1);
        int[] cells = new int[posts];
        for (int i = 0; i < posts; i++) {
            cells[i] = real.at(fence, i);
        }
        ask("restore");
        int sheet = draw(4);
        ask("sheet", sheet, new int[] {8, 16, 32}[draw(3)], posts);
        for (int i = 0; i < posts; i++) {
            ask("put", sheet, i, cells[i]);
        }
        ask("fits", sheet, fence);
    }

    private void tape(String text) {
        for (int from = 0; from < text.length(); from += 8) {
            int n = Math.min(8, text.length() - from);
            long word = 0;
            for (int i = n - 1; i >= 0; i--) {
                word = word << 8 | text.charAt(from + i);
            }
            ask("feed", word, n);
        }
    }

    private static final String[] SIGNS = {"|", "&", "<=>", "+-", "*/%"};

    /** A text by the grammar, though now and then with too much open. */
    private String written(int level, int open) {
        if (level == 5) {
            int what = draw(10);
            if (what < 2 && open < 6) {
                return what == 0 ? "!" + written(5, open + 1) : "(" + written(0, open + 1) + ")";
            }
            return what < 6 ? String.valueOf("apkcbd".charAt(draw(9) / 8 * 3 + draw(3))) : String.valueOf(draw(draw(2) == 0 ? 10 : 10500));
        }
        StringBuilder text = new StringBuilder(written(level + 1, open));
        while (draw(5) == 0 && text.length() < 40) {
            text.append(SIGNS[level].charAt(draw(SIGNS[level].length()))).append(written(level + 1, open));
        }
        return text.toString();
    }

    private String spoilt() {
        StringBuilder text = new StringBuilder(written(0, 0));
        for (int times = draw(3); times >= 0; times--) {
            int place = draw(text.length() + 1);
            char sign = draw(4) == 0 ? (char) draw(256) : "apkcbd0123456789!()|&<=>+-*/%".charAt(draw(29));
            if (draw(2) == 0 && place < text.length()) {
                text.deleteCharAt(place);
            } else {
                text.insert(place, sign);
            }
        }
        return text.toString();
    }

    private void texts() {
        for (int run = 0; run < 3000; run++) {
            begin(100000 + run);
            for (int i = 0; i < 12 && alike; i++) {
                String text = i % 2 == 0 ? written(0, 0) : spoilt();
                int use = draw(2);
                tape(use == 0 || draw(9) == 0 ? text : text.replace('a', 'c').replace('p', 'b').replace('k', 'd'));
                ask("text", use);
                ask("law", use, between(-9, 9), between(-9, 9), between(-9, 9));
                ask("law", use, number(0, 99), number(0, 1 << 24), number(0, 1 << 24));
            }
        }
    }

    /** POSTS that come beside a CELL in n moves, and some that SALT would have to hold there. */
    private void saltings() {
        int[] found = new int[3];
        for (int run = 0; run < 600; run++) {
            begin(200000 + run);
            int heading = draw(4);
            int n = draw(7);
            ask("fence", draw(3) == 0 ? draw(70) : draw(20), heading);
            int centre = 18 + 8 * draw(4) + draw(4);
            int[] steps = draw(4) == 0 ? Given.AROUND : Given.BESIDE;
            for (int step : steps) {
                int back = draw(3) == 0 ? draw(n + 1) : n;
                int cell = centre + step - back * new int[] {-8, 1, 8, -1}[heading];
                ask("post", 0, Math.floorMod(cell, 64));
            }
            for (int laid = draw(3); laid > 0; laid--) {
                ask("lay", draw(2), draw(64), 1);
            }
            for (int cell : new int[] {centre, centre + draw(3) - 1}) {
                ask("salts", 0, cell, n, -1);
                ask("salts", 0, cell, n, 0);
                ask("salts", 0, cell, n, 1);
                int many = real.salts(0, cell, n, -1);
                model.salts(0, cell, n, -1);
                if (many >= 0) {
                    found[many]++;
                }
            }
        }
        for (int many = 0; many < 3; many++) {
            if (found[many] < 20) {
                Due.fail("only " + found[many] + " sets of " + many + " CELLS were found");
            }
        }
    }
}
