import java.util.LinkedHashMap;
import java.util.Map;
import java.util.function.Function;

/** The last that is allowed: numbers, the 60th diagram, the 512th call; and what a call leaves. */
public final class LimitsTest {
    private static final String INDEX = "throws.IndexOutOfBoundsException";
    private static final String STATE = "throws.IllegalStateException";
    private static final String NO_ELEMENT = "throws.NoSuchElementException";

    public static void main(String[] args) {
        lastNumbers();
        lastRule();
        sixtieth();
        neverChanged();
        filmKept();
        filmOfFailures();
        rowKept();
        meaningOfKinds();
        numbersModulo7();
        lastCall();
        newObjects();
        Check.end();
    }

    /** 0 and the last one are '2', 1 is '3', and a rule makes the one of the other. */
    private static Stringdrawer twoEnds(int many) {
        Stringdrawer x = new Stringdrawer();
        x.box('2');
        x.box('3');
        x.rule(0, 1);
        x.type(4);
        x.simplify(0, 1);
        Draw.fill(x, many - 1);
        x.box('2');
        return x;
    }

    /** The last number answers what 0 answers, and the next one is refused. */
    private static void lastNumbers() {
        for (int many : new int[] {4, 5, 59, 60}) {
            for (Numbers.Call call : Numbers.OF_DIAGRAMS) {
                Stringdrawer x = twoEnds(many);
                Object due = Check.answer(() -> call.on().apply(x, 0));
                Check.due(call.what() + " first", call.what().contains("no output"),
                        () -> due.equals(INDEX));
                Stringdrawer y = twoEnds(many);
                Check.due(call.what() + " last of " + many, due,
                        () -> call.on().apply(y, many - 1));
                Stringdrawer z = twoEnds(many);
                Check.due(call.what() + " behind the last of " + many, INDEX,
                        () -> call.on().apply(z, many));
            }
        }
    }

    private static void lastRule() {
        for (int many : new int[] {1, 2, 19, 20}) {
            Stringdrawer x = new Stringdrawer();
            x.box('2');
            x.box('3');
            x.box('6');
            for (int rule = 0; rule < many - 1; rule++) {
                x.rule(0, 1);
            }
            Check.due("24 the last rule", many - 1, () -> x.rule(1, 1));
            int last = many - 1;
            Check.due("25 the last rule", true, () -> x.isTrue(last));
            Check.due("26 the last rule", 1, () -> x.matches(1, last));
            Check.due("27 the last rule", 0, () -> x.broken(1, last));
            Check.due("28 the last rule", 0, () -> x.image(1, last, 0, 0));
            Check.due("29 the last rule", 3, () -> x.rewrite(1, last, 0));
            Check.due("30 the last rule", 4, () -> x.simplify(1, 1));
            Check.due("33 the last rule", last, () -> x.ruleOf(0));
            Check.due("25 behind", INDEX, () -> x.isTrue(many));
            Check.due("26 behind", INDEX, () -> x.matches(1, many));
            Check.due("27 behind", INDEX, () -> x.broken(1, many));
            Check.due("28 behind", INDEX, () -> x.image(1, many, 0, 0));
            Check.due("29 behind", INDEX, () -> x.rewrite(1, many, 0));
            if (many < 20) {
                Check.due("24 behind", many, () -> x.rule(1, 2));
                Check.due("31 by the last rule", 1, () -> x.reach(1, 2, 4));
                Check.due("33 by the last rule", many, () -> x.ruleOf(0));
            } else {
                Check.due("24 behind", STATE, () -> x.rule(1, 2));
                Check.due("31 no rule", NO_ELEMENT, () -> x.reach(1, 2, 4));
            }
        }
    }

    private static Map<String, Function<Stringdrawer, Object>> makers() {
        Map<String, Function<Stringdrawer, Object>> makers = new LinkedHashMap<>();
        makers.put("2 box", x -> x.box('6'));
        makers.put("3 wires", x -> x.wires(6));
        makers.put("4 crossing", x -> x.crossing(2, 4));
        makers.put("5 then", x -> x.then(0, 1));
        makers.put("6 beside", x -> x.beside(0, 1));
        makers.put("7 turn", x -> x.turn(0));
        makers.put("29 rewrite", x -> x.rewrite(0, 0, 0));
        makers.put("30 simplify", x -> x.simplify(0, 1));
        makers.put("30 simplify without a step", x -> x.simplify(1, 1));
        makers.put("35 show", x -> x.show(0));
        return makers;
    }

    private static void sixtieth() {
        for (var maker : makers().entrySet()) {
            for (int many : new int[] {4, 58, 59}) {
                Stringdrawer x = twoEnds(many);
                Check.due(maker.getKey() + " number " + many, many,
                        () -> maker.getValue().apply(x));
                Check.due(maker.getKey() + " made one", many + 1, x::diagrams);
            }
            Stringdrawer x = twoEnds(59);
            maker.getValue().apply(x);
            Check.due(maker.getKey() + " is the 60th", 60, x::diagrams);
            String before = State.of(x);
            for (var other : makers().entrySet()) {
                Check.due(other.getKey() + " is the 61st", STATE,
                        () -> other.getValue().apply(x));
            }
            Check.due(maker.getKey() + " stays the last", before, () -> State.of(x));
        }
    }

    /** What is made leaves the diagrams from which it is made, and the rules, as they were. */
    private static void neverChanged() {
        for (var maker : makers().entrySet()) {
            Stringdrawer x = twoEnds(5);
            StringBuilder before = new StringBuilder();
            StringBuilder behind = new StringBuilder();
            for (int number = 0; number < 5; number++) {
                before.append(Draw.told(x, number)).append(x.rank(number)).append('\n');
            }
            maker.getValue().apply(x);
            for (int number = 0; number < 5; number++) {
                behind.append(Draw.told(x, number)).append(x.rank(number)).append('\n');
            }
            Check.due(maker.getKey() + " changes none", before.toString(), behind::toString);
            Check.due(maker.getKey() + " makes no rule", 1, x::rules);
            Check.due(maker.getKey() + " leaves the rule", false, () -> x.isTrue(0));
            Check.due(maker.getKey() + " leaves the row", 1, x::erase);
        }
    }

    /** Only simplifying and a film that is found put another film in place of the last one. */
    private static void filmKept() {
        Stringdrawer x = new Stringdrawer();
        int two = x.box('2');
        int three = x.box('3');
        int pair = x.beside(two, two);
        x.rule(two, three);
        int mixed = x.beside(two, three);
        Check.due("32 new", 0, x::steps);
        Check.due("31 the second match", 1, () -> x.reach(pair, mixed, 4));
        Check.due("34 the second match", 1, () -> x.matchOf(0));
        for (var maker : makers().entrySet()) {
            if (!maker.getKey().startsWith("30") && !maker.getKey().startsWith("35")) {
                maker.getValue().apply(x);
                Check.due(maker.getKey() + " keeps the film", 1, () -> x.matchOf(0));
            }
        }
        x.show(pair);
        x.rule(three, two);
        x.type(3);
        x.erase();
        x.isSound();
        Check.due("35 keeps the film", 1, () -> x.matchOf(0));
        Check.due("32 keeps the film", 1, x::steps);
        Check.due("31 no steps", 0, () -> x.reach(pair, pair, 4));
        Check.due("32 no steps", 0, x::steps);
        Check.due("34 no steps", NO_ELEMENT, () -> x.matchOf(0));
        Check.due("33 no steps", NO_ELEMENT, () -> x.ruleOf(0));
        int same = x.show(pair);
        Check.due("35 no steps", Draw.told(x, pair), () -> Draw.told(x, same));
        x.simplify(two, 3);
        Check.due("30 three steps", "0 1 0", () -> x.ruleOf(0) + " " + x.ruleOf(1) + " "
                + x.ruleOf(2));
        Check.due("30 three steps", NO_ELEMENT, () -> x.ruleOf(3));
        Check.due("31 one step", 1, () -> x.reach(two, three, 1));
        Check.due("32 one step", 1, x::steps);
        Check.due("33 one step", NO_ELEMENT, () -> x.ruleOf(1));
        x.simplify(x.wires(0), 30);
        Check.due("32 without a step", 0, x::steps);
    }

    private static void filmOfFailures() {
        Stringdrawer x = new Stringdrawer();
        int two = x.box('2');
        int three = x.box('3');
        x.rule(three, x.then(three, three));
        x.rule(two, three);
        x.reach(two, three, 4);
        Check.due("33 one step", 1, () -> x.ruleOf(0));
        Check.due("30 0", "throws.IllegalArgumentException", () -> x.simplify(three, 0));
        Check.due("30 25 boxes", "throws.UnsupportedOperationException",
                () -> x.simplify(two, 30));
        Check.due("30 none", INDEX, () -> x.simplify(9, 1));
        Check.due("31 none", NO_ELEMENT, () -> x.reach(three, two, 4));
        Check.due("31 5", "throws.IllegalArgumentException", () -> x.reach(two, two, 5));
        Check.due("31 none", INDEX, () -> x.reach(two, 9, 4));
        Check.due("35 no match", NO_ELEMENT, () -> x.show(three));
        Check.due("32 one step still", 1, x::steps);
        Check.due("33 one step still", 1, () -> x.ruleOf(0));
        Check.due("34 one step still", 0, () -> x.matchOf(0));
        int shown = x.show(two);
        Check.due("35 one step still", "1>1 3-1 .0", () -> Draw.told(x, shown));
        Draw.fill(x, 60);
        Check.due("30 full", STATE, () -> x.simplify(three, 5));
        Check.due("35 full", STATE, () -> x.show(two));
        Check.due("33 one step still", 1, () -> x.ruleOf(0));
        Check.due("32 one step still", 1, x::steps);
    }

    private static void rowKept() {
        Stringdrawer x = new Stringdrawer();
        int wires = x.wires(6);
        for (int value = 1; value <= 6; value++) {
            x.type(value);
        }
        for (int more = 0; more < 2; more++) {
            for (int output = 0; output < 6; output++) {
                int asked = output;
                Check.due("22 the row stays", output + 1, () -> x.value(wires, asked));
            }
            Check.due("23 the row", "throws.UnsupportedOperationException", () -> x.holds(wires));
            Check.due("20 wrong", "throws.IllegalArgumentException", () -> x.type(7));
        }
        for (int value = 1; value <= 6; value++) {
            x.type(value);
        }
        Check.due("23 twelve", true, () -> x.holds(wires));
        Check.due("23 twelve again", true, () -> x.holds(wires));
        Check.due("22 twelve", "throws.UnsupportedOperationException", () -> x.value(wires, 0));
        Check.due("20 a 13th", STATE, () -> x.type(1));
        Check.due("23 twelve still", true, () -> x.holds(wires));
        Check.due("21 twelve", 12, x::erase);
        Check.due("23 none", "throws.UnsupportedOperationException", () -> x.holds(wires));
        Check.due("23 none", true, () -> x.holds(x.wires(0)));
    }

    /** All rows of values on the wires of each kind. */
    private static void meaningOfKinds() {
        for (char kind : Plain.KINDS.toCharArray()) {
            int ins = Plain.arityIn(kind);
            int outs = Plain.arityOut(kind);
            int many = ins + outs == 3 ? 343 : ins + outs == 2 ? 49 : 7;
            for (int number = 0; number < many; number++) {
                int[] row = {number % 7, number / 7 % 7, number / 49};
                Stringdrawer x = new Stringdrawer();
                int box = x.box(kind);
                for (int wire = 0; wire < ins + outs; wire++) {
                    x.type(row[wire]);
                }
                Check.due("23 " + kind + " " + row[0] + row[1] + row[2], meant(kind, row),
                        () -> x.holds(box));
            }
        }
    }

    private static boolean meant(char kind, int[] row) {
        return switch (kind) {
            case 'c', 'm' -> row[0] == row[1] && row[1] == row[2];
            case 'a' -> (row[0] + row[1]) % 7 == row[2];
            case 's' -> (row[1] + row[2]) % 7 == row[0];
            case 'z', 'n' -> row[0] == 0;
            case 'd', 'u' -> true;
            default -> (kind - '0') * row[0] % 7 == row[1];
        };
    }

    private static void numbersModulo7() {
        for (int times = 0; times < 7; times++) {
            Stringdrawer x = new Stringdrawer();
            int box = x.box((char) ('0' + times));
            int sum = Draw.of(x, "(" + times + "|w);a");
            for (int value = 0; value < 7; value++) {
                x.erase();
                x.type(value);
                Check.due("22 " + times + " times " + value, times * value % 7,
                        () -> x.value(box, 0));
                for (int other = 0; other < 7; other++) {
                    x.erase();
                    x.type(value);
                    x.type(other);
                    Check.due("22 " + times + " times " + value + " and " + other,
                            (times * value + other) % 7, () -> x.value(sum, 0));
                }
            }
        }
    }

    /** 511 calls of all kinds, most of them refused, nine of which make the room; and one more. */
    private static void lastCall() {
        for (Numbers.Call call : Numbers.OF_DIAGRAMS) {
            Stringdrawer x = twoEnds(5);
            Stringdrawer y = twoEnds(5);
            for (int made = 9; made < 511; made++) {
                int number = made % 3 == 0 ? 0 : made;
                Numbers.Call other = Numbers.OF_DIAGRAMS.get(made % Numbers.OF_DIAGRAMS.size());
                boolean changes = "5 6 7 24 29 30 31 35".contains(other.what().split(" ")[0]);
                Check.answer(() -> other.on().apply(x, changes ? 60 + number : number));
            }
            Check.due("512th call: " + call.what(), Check.answer(() -> call.on().apply(y, 0)),
                    () -> call.on().apply(x, 0));
        }
    }

    /** What is made and typed in one object is in no other one. */
    private static void newObjects() {
        Stringdrawer x = twoEnds(60);
        Stringdrawer y = new Stringdrawer();
        Check.due("1 diagrams", 0, y::diagrams);
        Check.due("1 rules", 0, y::rules);
        Check.due("1 steps", 0, y::steps);
        Check.due("1 row", 0, y::erase);
        Check.due("1 first diagram", 0, () -> y.box('a'));
        Check.due("1 first rule", 0, () -> y.rule(0, 0));
        Check.due("1 first value", 1, () -> y.type(6));
        Check.due("1 the other one", "1>1 2-1 .0", () -> Draw.told(x, 0));
        Check.due("1 the other one's row", 1, x::erase);
        Check.due("1 the other one's rule", false, () -> x.isTrue(0));
        Check.due("1 the other one's film", 1, x::steps);
    }
}
