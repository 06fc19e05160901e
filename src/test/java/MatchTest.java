import java.util.Random;

/**
 * Counts and tells all matches of seeded rules in seeded diagrams, and rewrites by them, with left
 * diagrams of some parts, as the plain model does. Arguments: first seed and number of rooms.
 */
public final class MatchTest {
    private final Random random;
    private final String kinds;
    private final Plain plain = new Plain();
    private final Stringdrawer drawer = new Stringdrawer();
    private String note;

    private MatchTest(long seed) {
        random = new Random(seed);
        String[] flavours = {"cdazmusn23", "cadz", "du", "ca2", "zudn", "cm2", "sc3am", "ca", "2c",
            "zd", "dz2"};
        kinds = flavours[random.nextInt(flavours.length)];
        note = "seed " + seed;
    }

    public static void main(String[] args) {
        long first = args.length > 0 ? Long.parseLong(args[0]) : 1;
        int many = args.length > 1 ? Integer.parseInt(args[1]) : 400;
        for (long seed = first; seed < first + many; seed++) {
            new MatchTest(seed).run();
        }
        Check.end();
    }

    private void run() {
        String diagram = text(random.nextInt(4), 1 + random.nextInt(4));
        String left = text(random.nextInt(4), 1 + random.nextInt(2));
        String right = alike(left);
        note += ": " + left + " to " + right + " in " + diagram + ": ";
        int there = drawn(diagram);
        int taken = drawn(left);
        int given = drawn(right);
        if (there < 0 || taken < 0 || plain.boxes(there) > 12 || plain.boxes(taken) > 5) {
            return;
        }
        boolean fits = given >= 0 && plain.inputs(given) == plain.inputs(taken)
                && plain.outputs(given) == plain.outputs(taken);
        int other = fits ? given : taken;
        Object rule = Check.answer(() -> plain.rule(taken, other));
        Check.due(note + "rule", rule, () -> drawer.rule(taken, other));
        if (rule.equals(0)) {
            matches(there, plain.boxes(taken));
            rewrites(there);
            Check.due(note + "isSound", true, drawer::isSound);
        }
    }

    /** A diagram in layers, each of which takes up all wires of the one ahead. */
    private String text(int width, int layers) {
        StringBuilder text = new StringBuilder();
        int wires = width;
        for (int layer = 0; layer < layers || text.length() == 0; layer++) {
            StringBuilder row = new StringBuilder();
            int made = 0;
            int taken = 0;
            while (taken < wires || row.length() == 0 || made < 6 && random.nextInt(6) == 0) {
                char kind = random.nextInt(4) == 0 ? random.nextInt(3) == 0 ? 'x' : 'w'
                        : kinds.charAt(random.nextInt(kinds.length()));
                int in = kind == 'x' ? 2 : kind == 'w' ? 1 : Plain.arityIn(kind);
                int out = kind == 'x' ? 2 : kind == 'w' ? 1 : Plain.arityOut(kind);
                if (taken + in > wires && row.length() > 0 || made + out > 6 || in > wires) {
                    kind = taken < wires ? 'd' : 'e';
                    in = taken < wires ? 1 : 0;
                    out = 0;
                }
                row.append(row.length() > 0 ? "|" : "").append(kind);
                taken += in;
                made += out;
            }
            text.append(layer > 0 ? ";" : "").append('(').append(row).append(')');
            wires = made;
        }
        return text.toString();
    }

    /** A text with as many inputs and outputs, if one is found soon. */
    private String alike(String left) {
        String found = left;
        String wanted = shape(left);
        for (int attempt = 0; attempt < 60 && found.equals(left); attempt++) {
            String other = text(wanted.charAt(0) - '0', 1 + random.nextInt(2));
            found = shape(other).equals(wanted) ? other : found;
        }
        return found;
    }

    private static String shape(String text) {
        Plain scratch = new Plain();
        Object made = Check.answer(() -> Draw.of(scratch, text));
        return made instanceof Integer number
                ? scratch.inputs(number) + "" + scratch.outputs(number) : "9";
    }

    private int drawn(String text) {
        Object number = Check.answer(() -> Draw.of(plain, text));
        Check.due(note + "drawn", number, () -> Draw.of(drawer, text));
        return number instanceof Integer made ? made : -1;
    }

    private void matches(int there, int boxes) {
        int many = plain.matches(there, 0);
        Check.due(note + "matches", many, () -> drawer.matches(there, 0));
        Check.due(note + "broken", plain.broken(there, 0), () -> drawer.broken(there, 0));
        for (int match = 0; match <= many && match < 60; match++) {
            for (int box = 0; box < boxes; box++) {
                int m = match;
                int b = box;
                Check.due(note + "image " + m + " " + b,
                        Check.answer(() -> plain.image(there, 0, m, b)),
                        () -> drawer.image(there, 0, m, b));
            }
        }
    }

    private void rewrites(int there) {
        int many = plain.matches(there, 0);
        for (int turn = 0; turn < 4 && many > 0 && plain.diagrams() < 60; turn++) {
            int match = random.nextInt(many);
            Object made = Check.answer(() -> plain.rewrite(there, 0, match));
            Check.due(note + "rewrite " + match, made, () -> drawer.rewrite(there, 0, match));
            if (made instanceof Integer number) {
                compare(number, there);
            }
        }
        int most = 1 + random.nextInt(4);
        Object made = Check.answer(() -> plain.simplify(there, most));
        Check.due(note + "simplify " + most, made, () -> drawer.simplify(there, most));
        if (made instanceof Integer number) {
            compare(number, there);
        }
    }

    private void compare(int number, int there) {
        Check.due(note + "depth", plain.depth(number), () -> drawer.depth(number));
        Check.due(note + "rank", plain.rank(number), () -> drawer.rank(number));
        Check.due(note + "areEqual", plain.areEqual(number, there),
                () -> drawer.areEqual(number, there));
        Check.due(note + "areAlike", plain.areAlike(number, there),
                () -> drawer.areAlike(number, there));
        for (int box = -1; box < plain.boxes(number); box++) {
            for (int place = 0; place < 6; place++) {
                int b = box;
                int p = place;
                Check.due(note + "source " + b + " " + p,
                        Check.answer(() -> plain.source(number, b, p)),
                        () -> drawer.source(number, b, p));
            }
        }
    }
}
