import java.util.Arrays;
import java.util.Random;
import java.util.concurrent.Callable;

/**
 * Makes seeded rows of calls on a Stringdrawer and on the plain model, and compares all answers,
 * and all diagrams wire by wire at the end of each row. Arguments: first seed and number of rows.
 */
public final class PlainTest {
    private final Random random;
    private final Stringdrawer drawer = new Stringdrawer();
    private final Plain plain = new Plain();
    private final StringBuilder log = new StringBuilder();
    private final int[] origins = new int[60];
    private final int flavour;

    private PlainTest(long seed) {
        random = new Random(seed);
        flavour = random.nextInt(8);
        Arrays.fill(origins, -1);
        log.append("seed ").append(seed).append(": ");
    }

    public static void main(String[] args) {
        long start = args.length > 0 ? Long.parseLong(args[0]) : 1;
        int many = args.length > 1 ? Integer.parseInt(args[1]) : 150;
        for (long seed = start; seed < start + many; seed++) {
            new PlainTest(seed).run();
        }
        Check.end();
    }

    private void run() {
        if (flavour > 3) {
            prepare();
        }
        int calls = 60 + random.nextInt(200);
        for (int call = 0; call < calls; call++) {
            if (flavour > 3 ? random.nextInt(6) == 0 && plain.diagrams() < 50
                    : random.nextInt(3) > 0) {
                build();
            } else {
                ask();
            }
        }
        compareAll();
    }

    /** Makes pieces with as many inputs as outputs, and rules of them, so that much can match. */
    private void prepare() {
        String kinds = random.nextBoolean() ? "camsduzn23" : "ca23ms16du";
        for (char kind : kinds.toCharArray()) {
            due("box " + kind, () -> plain.box(kind), () -> drawer.box(kind));
        }
        due("wires 1", () -> plain.wires(1), () -> drawer.wires(1));
        due("crossing 1 1", () -> plain.crossing(1, 1), () -> drawer.crossing(1, 1));
        int edge = 1 + random.nextInt(2);
        for (int attempt = 0; attempt < 3000 && plain.diagrams() < 38; attempt++) {
            int a = random.nextInt(plain.diagrams());
            int b = random.nextInt(plain.diagrams());
            int most = random.nextInt(4) == 0 ? 12 : 3;
            boolean small = size(a) + size(b) <= most && size(a) + size(b) > 0;
            boolean square = plain.inputs(a) == edge && plain.outputs(b) == edge;
            if (small && square && plain.outputs(a) == plain.inputs(b)) {
                due("then " + a + " " + b, () -> plain.then(a, b), () -> drawer.then(a, b));
            } else if (small && edge == 2 && random.nextInt(4) == 0
                    && plain.inputs(a) + plain.inputs(b) == 2
                    && plain.outputs(a) + plain.outputs(b) == 2) {
                due("beside " + a + " " + b, () -> plain.beside(a, b), () -> drawer.beside(a, b));
            }
        }
        int wanted = 1 + random.nextInt(8);
        for (int attempt = 0; attempt < 300 && plain.rules() < wanted; attempt++) {
            makeRule();
        }
    }

    private void due(String what, Callable<?> model, Callable<?> program) {
        log.append(what).append("; ");
        Object want = Check.answer(model);
        int at = log.length() - what.length() - 2;
        Check.due(what, want, () -> {
            Object got = Check.answer(program);
            if (!want.equals(got)) {
                System.out.println(log.substring(0, at));
            }
            return got;
        });
    }

    private int diagram() {
        int many = plain.diagrams();
        return random.nextInt(60) == 0 ? many * random.nextInt(2) - random.nextInt(2)
                : many == 0 ? 0 : random.nextInt(many);
    }

    private int rule() {
        int many = plain.rules();
        return random.nextInt(60) == 0 ? many * random.nextInt(2) - random.nextInt(2)
                : many == 0 ? 0 : random.nextInt(many);
    }

    private int size(int diagram) {
        return diagram < 0 || diagram >= plain.diagrams() ? 0 : plain.boxes(diagram);
    }

    private void build() {
        switch (random.nextInt(9)) {
            case 0 -> box();
            case 1 -> {
                int many = random.nextInt(20) == 0 ? random.nextInt(9) - 1 : random.nextInt(3);
                due("wires " + many, () -> plain.wires(many), () -> drawer.wires(many));
            }
            case 2 -> {
                boolean wild = random.nextInt(20) == 0;
                int a = wild ? random.nextInt(9) - 1 : random.nextInt(3);
                int b = wild ? random.nextInt(9) - 1 : random.nextInt(3);
                due("crossing " + a + " " + b, () -> plain.crossing(a, b),
                        () -> drawer.crossing(a, b));
            }
            case 3, 4, 5 -> then();
            case 6, 7 -> beside();
            default -> {
                if (random.nextInt(4) == 0) {
                    int a = diagram();
                    due("turn " + a, () -> plain.turn(a), () -> drawer.turn(a));
                } else {
                    makeRule();
                }
            }
        }
    }

    private void box() {
        String kinds = switch (flavour) {
            case 0 -> "cdzu";
            case 1 -> "cam2";
            case 2 -> "cdazmusn";
            default -> Plain.KINDS;
        };
        char kind = random.nextInt(40) == 0 ? (char) random.nextInt(256)
                : kinds.charAt(random.nextInt(kinds.length()));
        due("box " + kind, () -> plain.box(kind), () -> drawer.box(kind));
    }

    private void then() {
        int most = random.nextInt(12) == 0 ? 40 : 9;
        for (int attempt = 0; attempt < 12; attempt++) {
            int a = diagram();
            int b = diagram();
            boolean fits = size(a) + size(b) <= most && a >= 0 && b >= 0
                    && a < plain.diagrams() && b < plain.diagrams()
                    && plain.outputs(a) == plain.inputs(b) && size(a) + size(b) > 0;
            if (fits || attempt == 11 && random.nextInt(8) == 0) {
                due("then " + a + " " + b, () -> plain.then(a, b), () -> drawer.then(a, b));
                return;
            }
        }
    }

    private void beside() {
        int a = diagram();
        int b = diagram();
        if (size(a) + size(b) <= 8 || random.nextInt(12) == 0) {
            due("beside " + a + " " + b, () -> plain.beside(a, b), () -> drawer.beside(a, b));
        }
    }

    private void makeRule() {
        for (int attempt = 0; attempt < 20; attempt++) {
            int a = diagram();
            int b = diagram();
            boolean fits = size(a) > 0 && size(a) <= 1 + random.nextInt(6) && b >= 0
                    && b < plain.diagrams() && plain.inputs(a) == plain.inputs(b)
                    && plain.outputs(a) == plain.outputs(b) && size(b) < 9
                    && (random.nextInt(4) == 0 || plain.areEqual(a, b));
            if (fits || attempt == 19 && random.nextInt(8) == 0) {
                due("rule " + a + " " + b, () -> plain.rule(a, b), () -> drawer.rule(a, b));
                return;
            }
        }
    }

    private void ask() {
        int a = diagram();
        int b = diagram();
        int r = rule();
        int x = random.nextInt(5) - (random.nextInt(20) == 0 ? 1 : 0);
        int y = random.nextInt(4) - (random.nextInt(20) == 0 ? 1 : 0);
        switch (flavour > 3 && random.nextInt(3) > 0 ? 9 + random.nextInt(11)
                : random.nextInt(20)) {
            case 0 -> due("kindAt " + a + " " + x, () -> plain.kindAt(a, x),
                    () -> drawer.kindAt(a, x));
            case 1 -> due("source " + a + " " + (x - 1) + " " + y,
                    () -> plain.source(a, x - 1, y), () -> drawer.source(a, x - 1, y));
            case 2 -> due("depth " + a, () -> plain.depth(a), () -> drawer.depth(a));
            case 3 -> due("areAlike " + a + " " + b, () -> plain.areAlike(a, b),
                    () -> drawer.areAlike(a, b));
            case 4 -> due("entry " + a + " " + y + " " + x, () -> plain.entry(a, y, x),
                    () -> drawer.entry(a, y, x));
            case 5 -> due("areEqual " + a + " " + b, () -> plain.areEqual(a, b),
                    () -> drawer.areEqual(a, b));
            case 6 -> due("apart " + a + " " + b + " " + x, () -> plain.apart(a, b, x),
                    () -> drawer.apart(a, b, x));
            case 7 -> due("type " + (x + y), () -> plain.type(x + y), () -> drawer.type(x + y));
            case 8 -> askRow(a, y);
            case 9 -> due("isTrue " + r, () -> plain.isTrue(r), () -> drawer.isTrue(r));
            case 10 -> due("matches " + a + " " + r, () -> plain.matches(a, r),
                    () -> drawer.matches(a, r));
            case 11 -> due("broken " + a + " " + r, () -> plain.broken(a, r),
                    () -> drawer.broken(a, r));
            case 12, 13 -> matchAnd(false, a, r, x, y);
            case 14, 15 -> matchAnd(true, a, r, x, y);
            case 16 -> {
                int most = random.nextInt(10) == 0 ? 29 + random.nextInt(3) : x + y;
                due("simplify " + a + " " + most, () -> plain.simplify(a, most),
                        () -> drawer.simplify(a, most));
            }
            case 17 -> reach(a, b, x);
            case 18 -> due("show " + a, () -> plain.show(a), () -> drawer.show(a));
            default -> askFilm(x);
        }
    }

    /** Looks for a diagram in which a rule has matches, then asks for an image or rewrites. */
    private void matchAnd(boolean rewrites, int diagram, int rule, int match, int box) {
        int a = diagram;
        int r = rule;
        for (int attempt = 0; attempt < 20 && plain.rules() > 0 && !hasMatch(a, r); attempt++) {
            a = diagram();
            r = rule();
        }
        int d = a;
        int f = r;
        boolean some = hasMatch(a, r) && random.nextInt(8) > 0;
        int m = some ? random.nextInt(plain.matches(a, r)) : match;
        if (rewrites) {
            int were = plain.diagrams();
            due("rewrite " + d + " " + f + " " + m, () -> plain.rewrite(d, f, m),
                    () -> drawer.rewrite(d, f, m));
            if (plain.diagrams() > were) {
                origins[were] = d;
            }
        } else {
            due("image " + d + " " + f + " " + m + " " + box, () -> plain.image(d, f, m, box),
                    () -> drawer.image(d, f, m, box));
        }
    }

    private boolean hasMatch(int diagram, int rule) {
        return diagram >= 0 && rule >= 0 && diagram < plain.diagrams() && rule < plain.rules()
                && plain.matches(diagram, rule) > 0;
    }

    /** Types a row that is as long as is wanted, but for now and then. */
    private void askRow(int diagram, int output) {
        int a = diagram;
        boolean asksValue = random.nextBoolean();
        for (int attempt = 0; attempt < 10 && asksValue && (a < 0 || a >= plain.diagrams()
                || !plain.isFunction(a) || plain.outputs(a) == 0); attempt++) {
            a = diagram();
        }
        int d = a;
        if (d >= 0 && d < plain.diagrams() && random.nextInt(8) > 0) {
            int wanted = plain.inputs(d) + (asksValue ? 0 : plain.outputs(d));
            due("erase", plain::erase, drawer::erase);
            for (int index = 0; index < wanted; index++) {
                int v = random.nextInt(3) == 0 ? 0 : random.nextInt(7);
                due("type " + v, () -> plain.type(v), () -> drawer.type(v));
            }
        }
        if (asksValue) {
            int o = random.nextInt(4) > 0 ? 0 : output;
            due("value " + d + " " + o, () -> plain.value(d, o), () -> drawer.value(d, o));
        } else {
            due("holds " + d, () -> plain.holds(d), () -> drawer.holds(d));
        }
    }

    /** Most often looks for a film to a diagram that was made by rewriting. */
    private void reach(int a, int b, int most) {
        int goal = b;
        int start = a;
        for (int attempt = 0; attempt < 20; attempt++) {
            int other = random.nextInt(60);
            if (origins[other] >= 0 && random.nextInt(10) > 0) {
                goal = other;
                start = origins[other];
                for (int back = 0; back < random.nextInt(4) && origins[start] >= 0; back++) {
                    start = origins[start];
                }
            }
        }
        int first = start;
        int second = goal;
        if (size(first) < 9) {
            due("reach " + first + " " + second + " " + most,
                    () -> plain.reach(first, second, most),
                    () -> drawer.reach(first, second, most));
        }
    }

    private void askFilm(int step) {
        due("steps", plain::steps, drawer::steps);
        due("ruleOf " + step, () -> plain.ruleOf(step), () -> drawer.ruleOf(step));
        due("matchOf " + step, () -> plain.matchOf(step), () -> drawer.matchOf(step));
    }

    private void compareAll() {
        due("diagrams", plain::diagrams, drawer::diagrams);
        due("rules", plain::rules, drawer::rules);
        due("allBoxes", plain::allBoxes, drawer::allBoxes);
        due("trueShare", plain::trueShare, drawer::trueShare);
        due("meanRank", plain::meanRank, drawer::meanRank);
        due("isSound", plain::isSound, drawer::isSound);
        for (int step = 0; step < plain.steps(); step++) {
            askFilm(step);
        }
        for (int diagram = 0; diagram < plain.diagrams(); diagram++) {
            compare(diagram);
        }
    }

    private void compare(int d) {
        due("inputs " + d, () -> plain.inputs(d), () -> drawer.inputs(d));
        due("outputs " + d, () -> plain.outputs(d), () -> drawer.outputs(d));
        due("boxes " + d, () -> plain.boxes(d), () -> drawer.boxes(d));
        due("depth " + d, () -> plain.depth(d), () -> drawer.depth(d));
        due("rank " + d, () -> plain.rank(d), () -> drawer.rank(d));
        due("isFunction " + d, () -> plain.isFunction(d), () -> drawer.isFunction(d));
        for (int b = -1; b < plain.boxes(d); b++) {
            int box = b;
            for (int p = 0; p < 7; p++) {
                int place = p;
                due("source " + d + " " + box + " " + place, () -> plain.source(d, box, place),
                        () -> drawer.source(d, box, place));
            }
            due("kindAt " + d + " " + box, () -> plain.kindAt(d, box), () -> drawer.kindAt(d, box));
        }
        for (int e = 0; e < 40; e++) {
            int row = e / 8;
            int column = e % 8;
            due("entry " + d + " " + row + " " + column, () -> plain.entry(d, row, column),
                    () -> drawer.entry(d, row, column));
        }
    }
}
