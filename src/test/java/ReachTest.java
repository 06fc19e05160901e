import java.util.ArrayList;
import java.util.List;
import java.util.Random;

/**
 * Looks for shortest films in seeded rooms in which much can be reached, above all for the
 * diagrams that come shortly before and behind the 200th one, as the plain model tells them.
 * Arguments: first seed and number of rooms.
 */
public final class ReachTest {
    private static final String[] PIECES = {"2", "3", "4", "5", "w", "2;3", "3;2", "1;2", "c;a",
        "c;(2|w);a", "s;a", "s;m", "c;m", "d;z", "d;u", "n;u", "(z;d)|2", "(u;n)|3", "w|(z;n)",
        "6"};
    private static final String[] PAIRS = {"2|2", "x", "w|w", "2|3", "m;c", "a;c", "a;s", "x;(2|w)",
        "(c|w);(w|a)", "(w|s);(m|w)", "(2|w);x", "3|2", "x;a;c", "(w|(c;(d|w)))", "(d;z)|2"};

    /** Sides of rules with as many inputs and outputs, of parts that stand by themselves. */
    private static final String[][] SIDES = {{"z;d", "u;d", "z;n", "e", "(z;d)|(z;d)", "z;2;d",
        "(z;d)|(u;d)", "z;c;(d|d)"}, {"d", "n", "d|(z;d)", "c;(d|d)"}, {"z", "u", "z|(z;d)"},
        {"d|d", "n|d", "d|n", "d|d|(z;d)", "n|n"}, {"z|z", "u|z", "z|u", "z;c", "u;c"},
        {"z|d", "d|z", "2", "w", "u|n", "z|n"}, {"d|d|d", "d|d|n", "n|d|d"},
        {"z|z|d", "u|z|d", "(d|z|z);x", "z|n|z"}};
    /** Parts that are alike, in the order in which they come or in another one. */
    private static final String[] PARTS = {"z;d", "z;d", "z;d", "u;d", "(z|z);(d|d)",
        "(z|z);x;(d|d)", "(z|z|z);(w|x);(x|w);(d|d|d)", "z;2;d", "z;c;(d|d)", "d", "2", "2;3",
        "(z|u);(d|d)", "(z|z);(2|w);(d|2);d", "z;n",
        "(z|z);(c|c);(w|x|w);(w|w|x);(d|d|d|d)", "(z|z);(c|c);(w|x|w);(x|w|w);(d|d|d|d)",
        "z;c;(d|2);d", "(z|z);a;d", "z"};

    private final Random random;
    private final List<String> calls = new ArrayList<>();
    private final Plain model = new Plain();
    private int start;

    private ReachTest(long seed) {
        random = new Random(seed);
    }

    public static void main(String[] args) {
        long first = args.length > 0 ? Long.parseLong(args[0]) : 1;
        int many = args.length > 1 ? Integer.parseInt(args[1]) : 300;
        for (long seed = first; seed < first + many; seed++) {
            new ReachTest(seed).run(seed);
        }
        Check.end();
    }

    private void run(long seed) {
        boolean pairs = random.nextInt(3) == 0;
        boolean parts = random.nextInt(3) == 0;
        List<String> used = new ArrayList<>();
        int rules = 1 + random.nextInt(6);
        for (int rule = 0; rule < rules; rule++) {
            String[] sides = SIDES[random.nextInt(SIDES.length)];
            String[] pieces = parts ? sides : pairs ? PAIRS : PIECES;
            used = parts ? new ArrayList<>() : used;
            String left = piece(pieces, used);
            used.add(left);
            String right = piece(pieces, used);
            used.add(right);
            calls.add(left + ":" + right);
        }
        StringBuilder text = new StringBuilder();
        int width = pairs ? 1 + random.nextInt(3) : 1 + random.nextInt(6);
        for (int column = 0; column < width; column++) {
            text.append(column > 0 ? "|" : "")
                    .append(parts ? "(" + PARTS[random.nextInt(PARTS.length)] + ")" : column(used));
        }
        String given = text.toString();
        int most = 1 + random.nextInt(4);
        if (!draw(model, given)) {
            return;
        }
        List<List<Plain.Step>> films = model.films(start, most, 215);
        for (int index = 0; index < films.size(); index++) {
            if (index > 190 || index == films.size() - 1 || random.nextInt(12) == 0) {
                look(seed + " number " + index, given, films.get(index), index, most);
            }
        }
    }

    /** Most often one of few, so that one rule makes what another one takes. */
    private String piece(String[] pieces, List<String> used) {
        int reach = random.nextInt(3) == 0 ? pieces.length : Math.min(pieces.length, 5);
        return !used.isEmpty() && random.nextInt(3) == 0 ? used.get(random.nextInt(used.size()))
                : pieces[random.nextInt(reach)];
    }

    private String column(List<String> used) {
        StringBuilder text = new StringBuilder("(");
        int length = 1 + random.nextInt(random.nextInt(3) + 1);
        for (int row = 0; row < length; row++) {
            text.append(row > 0 ? ";" : "").append('(')
                    .append(used.get(random.nextInt(used.size()))).append(')');
        }
        return text.append(')').toString();
    }

    private boolean draw(Plain plain, String given) {
        try {
            for (String call : calls) {
                String[] sides = call.split(":");
                int left = Draw.of(plain, sides[0]);
                int right = Draw.of(plain, sides[1]);
                Check.answer(() -> plain.rule(left, right));
            }
            start = Draw.of(plain, given);
            return plain.boxes(start) < 11 && plain.diagrams() < 56;
        } catch (UnsupportedOperationException | IllegalStateException e) {
            return false;
        }
    }

    private void look(String what, String given, List<Plain.Step> film, int index, int most) {
        Stringdrawer x = new Stringdrawer();
        for (String call : calls) {
            String[] sides = call.split(":");
            int left = Draw.of(x, sides[0]);
            int right = Draw.of(x, sides[1]);
            Check.answer(() -> x.rule(left, right));
        }
        int from = Draw.of(x, given);
        int goal = from;
        StringBuilder wanted = new StringBuilder();
        for (Plain.Step step : film) {
            int before = goal;
            Object made = Check.answer(() -> x.rewrite(before, step.rule(), step.match()));
            goal = made instanceof Integer number ? number : goal;
            wanted.append(step.rule()).append('/').append(step.match()).append(' ');
        }
        int asked = goal;
        String note = what + " of " + calls + " from " + given + " most " + most;
        Check.due(note, index < 200 ? film.size() : "throws.NoSuchElementException",
                () -> x.reach(from, asked, most));
        Check.due(note, index < 200 ? wanted.toString() : "", () -> {
            StringBuilder found = new StringBuilder();
            for (int step = 0; step < x.steps(); step++) {
                found.append(x.ruleOf(step)).append('/').append(x.matchOf(step)).append(' ');
            }
            return found.toString();
        });
    }
}
