import java.util.List;

/** Promises 30 to 35 and 41: simplifying, shortest films, showing them again, and soundness. */
public final class FilmsTest {
    private static final String INDEX = "throws.IndexOutOfBoundsException";
    private static final String ARGUMENT = "throws.IllegalArgumentException";
    private static final String STATE = "throws.IllegalStateException";
    private static final String UNSUPPORTED = "throws.UnsupportedOperationException";
    private static final String NO_ELEMENT = "throws.NoSuchElementException";
    private static final int[] OUTSIDE = {-1, Integer.MIN_VALUE, Integer.MAX_VALUE, 60, 1000};

    public static void main(String[] args) {
        simplify();
        simplifyWithoutStep();
        sixParts();
        simplifyLimits();
        simplifyTooLarge();
        reach();
        reachFirst();
        reachLimits();
        reachSteps();
        reachTooLarge();
        reachMany();
        reachAlike();
        reachCopies();
        reachCrossedCopies();
        show();
        showLimits();
        sound();
        Check.end();
    }

    private static int rule(Stringdrawer x, String left, String right) {
        int taken = Draw.of(x, left);
        int given = Draw.of(x, right);
        return x.rule(taken, given);
    }

    /** Tells the steps, each by its rule and match. */
    private static String film(Stringdrawer x) {
        StringBuilder text = new StringBuilder();
        for (int step = 0; step < x.steps(); step++) {
            text.append(step > 0 ? " " : "").append(x.ruleOf(step)).append('/')
                    .append(x.matchOf(step));
        }
        return text.toString();
    }

    private static void simplify() {
        Stringdrawer x = new Stringdrawer();
        rule(x, "2;3", "6");
        rule(x, "6;6", "1");
        rule(x, "1", "w");
        int d = Draw.of(x, "2;3;2;3");
        int number = x.diagrams();
        Check.due("30 number", number, () -> x.simplify(d, 30));
        Check.due("30 simplified", "1>1 .-1", () -> Draw.told(x, number));
        Check.due("32 steps", 4, x::steps);
        Check.due("33 34 film", "0/0 0/0 1/0 2/0", () -> film(x));
        Check.due("30 the other one stays", "1>1 2-1 30 22 34 .6", () -> Draw.told(x, d));
        String[] due = {"1>1 24 30 6-1 .2", "1>1 6-1 60 .2", "1>1 1-1 .0", "1>1 .-1", "1>1 .-1"};
        for (int most = 1; most <= 5; most++) {
            int times = most;
            int made = x.diagrams();
            Check.due("30 number", made, () -> x.simplify(d, times));
            Check.due("30 as often as " + most, due[most - 1], () -> Draw.told(x, made));
            Check.due("32 steps", Math.min(most, 4), x::steps);
        }
        for (int step : new int[] {-1, 4, 30, Integer.MIN_VALUE, Integer.MAX_VALUE}) {
            Check.due("33 ruleOf " + step, NO_ELEMENT, () -> x.ruleOf(step));
            Check.due("34 matchOf " + step, NO_ELEMENT, () -> x.matchOf(step));
        }
        int lowest = Draw.of(x, "1;6;6;2;3");
        Check.due("30 another one", x.diagrams(), () -> x.simplify(lowest, 30));
        Check.due("30 the lowest rule first", "0/0 1/0 2/0 2/0", () -> film(x));
        int ones = Draw.of(x, "1;6;6");
        Check.due("30 without the lowest rule", x.diagrams(), () -> x.simplify(ones, 30));
        Check.due("33 the first step by another rule", "1/0 2/0 2/0", () -> film(x));
        int single = Draw.of(x, "2;1");
        Check.due("30 by the last rule alone", x.diagrams(), () -> x.simplify(single, 30));
        Check.due("33 the last rule alone", "2/0", () -> film(x));
    }

    private static void simplifyWithoutStep() {
        Stringdrawer x = new Stringdrawer();
        int d = Draw.of(x, "(2|3);x;a");
        int made = x.diagrams();
        Check.due("30 without rules", made, () -> x.simplify(d, 1));
        Check.due("30 a diagram like it", Draw.told(x, d), () -> Draw.told(x, made));
        Check.due("32 no steps", 0, x::steps);
        rule(x, "2;3", "6");
        int broken = rule(x, "2|4", "x;(5|6)");
        x.simplify(Draw.of(x, "2;3"), 5);
        Check.due("32 one step", "0/0", () -> film(x));
        int chain = Draw.of(x, "2;4");
        int number = x.diagrams();
        Check.due("27 a broken match", 1, () -> x.broken(chain, broken));
        Check.due("30 a broken match is none", number, () -> x.simplify(chain, 30));
        Check.due("30 a diagram like it", "1>1 2-1 40 .2", () -> Draw.told(x, number));
        Check.due("32 the film is new", 0, x::steps);
    }

    /** A broken match is none from the very first call on; and all parts are looked at. */
    private static void sixParts() {
        Stringdrawer x = new Stringdrawer();
        rule(x, "d|d|d|d|d|z", "n|n|n|n|n|u");
        int pairs = Draw.of(x, "(z;d)|(z;d)|(z;d)|(z;d)|(z;d)");
        int before = x.diagrams();
        Check.due("30 all are broken", before, () -> x.simplify(pairs, 1));
        Check.due("32 no steps", 0, x::steps);
        int six = x.beside(pairs, Draw.of(x, "z;d"));
        int made = x.diagrams();
        Check.due("30 six parts", made, () -> x.simplify(six, 1));
        Check.due("30 six parts", "0>0 z z z z z d22 n0 n2 n4 n6 n8 u .",
                () -> Draw.told(x, made));
        Check.due("30 nothing more", made + 1, () -> x.simplify(made, 30));
        Check.due("32 no steps", 0, x::steps);
        Stringdrawer y = new Stringdrawer();
        rule(y, "2|2|2|2|2|2", "x|x|x");
        rule(y, "2|2|2|2|2|2", "w|w|w|w|w|w");
        int twos = Draw.of(y, "2|2|2|2|2|2");
        int crossed = Draw.of(y, "(w|x|w|w|w);(x|x|x);(w|x|w|w|w)");
        Check.due("31 one of 720", 1, () -> y.reach(twos, crossed, 1));
        Check.due("34 one of 720", "0/24", () -> film(y));
        int shown = y.show(twos);
        Check.due("35 one of 720", Draw.told(y, crossed), () -> Draw.told(y, shown));
        Check.due("31 straight", 1, () -> y.reach(twos, y.wires(6), 4));
        Check.due("34 straight", "1/0", () -> film(y));
        Stringdrawer seven = new Stringdrawer();
        rule(seven, "z|d|d|d|d|d|d", "z|d|d|d|d|d|n");
        int from = Draw.of(seven, "z|d|d|d|d|d|d");
        int to = Draw.of(seven, "z|d|d|d|d|n|d");
        Check.due("31 seven parts", 1, () -> seven.reach(from, to, 4));
        Check.due("34 seven parts", "0/1", () -> film(seven));
        int single = Draw.of(y, "w|w|w|w|x");
        Check.due("31 no such wires", NO_ELEMENT, () -> y.reach(twos, single, 4));
    }

    private static void simplifyLimits() {
        Stringdrawer x = new Stringdrawer();
        rule(x, "2", "2");
        int d = Draw.of(x, "2;3");
        int other = Draw.of(x, "3");
        for (int most : new int[] {0, -1, 31, Integer.MIN_VALUE, Integer.MAX_VALUE}) {
            Check.due("30 most " + most, ARGUMENT, () -> x.simplify(d, most));
        }
        for (int number : OUTSIDE) {
            Check.due("30 simplify " + number, INDEX, () -> x.simplify(number, 1));
            Check.due("30 simplify " + number + " 0", INDEX, () -> x.simplify(number, 0));
        }
        Check.due("30 all steps", x.diagrams(), () -> x.simplify(d, 30));
        Check.due("32 all steps", 30, x::steps);
        Check.due("33 last step", 0, () -> x.ruleOf(29));
        Check.due("34 last step", 0, () -> x.matchOf(29));
        Check.due("33 behind", NO_ELEMENT, () -> x.ruleOf(30));
        Check.due("30 29 steps", x.diagrams(), () -> x.simplify(d, 29));
        Check.due("32 29 steps", 29, x::steps);
        Draw.fill(x, 60);
        Check.due("30 full", STATE, () -> x.simplify(d, 3));
        Check.due("30 full, without a step", STATE, () -> x.simplify(other, 3));
        Check.due("30 full, 0", ARGUMENT, () -> x.simplify(d, 0));
        Check.due("30 full, none", INDEX, () -> x.simplify(60, 0));
        Check.due("32 the film stays", 29, x::steps);
        Check.due("30 nothing made", 60, x::diagrams);
    }

    private static void simplifyTooLarge() {
        Stringdrawer x = new Stringdrawer();
        rule(x, "1", "w");
        rule(x, "2", "2;4;4");
        int d = Draw.of(x, "1;2");
        Check.due("30 12 steps", x.diagrams(), () -> x.simplify(d, 12));
        Check.due("30 23 boxes", 23, () -> x.boxes(x.diagrams() - 1));
        Check.due("32 12 steps", 12, x::steps);
        int before = x.diagrams();
        Check.due("30 13 steps", UNSUPPORTED, () -> x.simplify(d, 13));
        Check.due("30 30 steps", UNSUPPORTED, () -> x.simplify(d, 30));
        Check.due("30 nothing made", before, x::diagrams);
        Check.due("32 the film stays", 12, x::steps);
        int odd = Draw.of(x, "2;3");
        Check.due("30 to 24 boxes", x.diagrams(), () -> x.simplify(odd, 11));
        Check.due("30 24 boxes", 24, () -> x.boxes(x.diagrams() - 1));
        Check.due("30 to 26 boxes", UNSUPPORTED, () -> x.simplify(odd, 12));
        Draw.fill(x, 60);
        Check.due("30 full, too large", UNSUPPORTED, () -> x.simplify(odd, 12));
        Check.due("30 full", STATE, () -> x.simplify(odd, 11));
        Check.due("32 the film stays", 11, x::steps);
    }

    private static void reach() {
        Stringdrawer x = new Stringdrawer();
        rule(x, "2", "3");
        rule(x, "3", "4");
        int two = Draw.of(x, "2");
        int four = Draw.of(x, "4");
        Check.due("31 two steps", 2, () -> x.reach(two, four, 4));
        Check.due("32 two steps", "0/0 1/0", () -> film(x));
        Check.due("31 just enough", 2, () -> x.reach(two, four, 2));
        int before = x.diagrams();
        Check.due("31 not enough", NO_ELEMENT, () -> x.reach(two, four, 1));
        Check.due("31 no way back", NO_ELEMENT, () -> x.reach(four, two, 4));
        Check.due("31 not as many", NO_ELEMENT, () -> x.reach(two, x.box('a'), 4));
        Check.due("32 the film stays", "0/0 1/0", () -> film(x));
        Check.due("31 nothing made", before + 1, x::diagrams);
        Check.due("31 itself", 0, () -> x.reach(two, two, 0));
        Check.due("32 no steps", 0, x::steps);
        rule(x, "2", "4");
        Check.due("31 a shorter one", 1, () -> x.reach(two, four, 4));
        Check.due("32 a shorter one", "2/0", () -> film(x));
        Check.due("31 alike without a step", 0, () -> x.reach(two, x.box('2'), 3));
        Check.due("32 no steps", 0, x::steps);
    }

    private static void reachFirst() {
        Stringdrawer x = new Stringdrawer();
        rule(x, "2", "3");
        rule(x, "3", "5");
        rule(x, "2", "4");
        rule(x, "4", "5");
        rule(x, "2", "3");
        int d = Draw.of(x, "2|2");
        int second = Draw.of(x, "2|3");
        int both = Draw.of(x, "5|3");
        int fives = Draw.of(x, "5|5");
        Check.due("31 one step", 1, () -> x.reach(d, second, 4));
        Check.due("34 the second match", "0/1", () -> film(x));
        Check.due("31 three steps", 3, () -> x.reach(d, both, 4));
        Check.due("33 the first of many", "0/0 0/0 1/0", () -> film(x));
        Check.due("31 four steps", 4, () -> x.reach(d, fives, 4));
        Check.due("33 the first of many", "0/0 0/0 1/0 1/0", () -> film(x));
        reachFirst("2:4 2:3 3:5 4:5", "2", "5", "0/0 3/0");
        reachFirst("3:5 4:5 2:4 2:3", "2", "5", "2/0 1/0");
        reachFirst("2:3 2:3 2:4", "2|2", "4|3", "0/1 2/0");
        reachFirst("2:4 2:3", "2|2", "4|3", "0/0 1/0");
        reachFirst("2:3 2:4", "2|2", "4|3", "0/1 1/0");
        reachFirst("2|2:3|4", "2|2", "4|3", "0/1");
        reachFirst("2|2:3|3", "2|2|2", "3|2|3", "0/1");
        reachFirst("2:2;2 2;2:3", "2;2", "3;2;2", "0/0 0/0 1/0");
        reachFirst("2:2;2 2;2:3", "2;2", "2;2;3", "0/0 0/0 1/2");
    }

    private static void reachFirst(String rules, String from, String to, String due) {
        Stringdrawer x = new Stringdrawer();
        for (String line : rules.split(" ")) {
            rule(x, line.split(":")[0], line.split(":")[1]);
        }
        int start = Draw.of(x, from);
        int goal = Draw.of(x, to);
        Object steps = Check.answer(() -> x.reach(start, goal, 4));
        Check.due("31 " + rules + " from " + from + " to " + to, due.split(" ").length,
                () -> steps);
        Check.due("33 34 " + rules + " from " + from + " to " + to, due, () -> film(x));
        int shown = x.show(start);
        Check.due("35 " + rules + " from " + from, true, () -> x.areAlike(shown, goal));
    }

    private static void reachLimits() {
        Stringdrawer x = new Stringdrawer();
        rule(x, "2", "3");
        int d = Draw.of(x, "2|2|2|2|2");
        int four = Draw.of(x, "3|3|3|3|2");
        int five = Draw.of(x, "3|3|3|3|3");
        for (int most : new int[] {-1, 5, Integer.MIN_VALUE, Integer.MAX_VALUE}) {
            Check.due("31 most " + most, ARGUMENT, () -> x.reach(d, four, most));
            Check.due("31 most " + most, ARGUMENT, () -> x.reach(d, x.wires(0), most));
            Check.due("31 none, most " + most, INDEX, () -> x.reach(60, four, most));
        }
        Check.due("31 four steps", 4, () -> x.reach(d, four, 4));
        Check.due("31 five steps", NO_ELEMENT, () -> x.reach(d, five, 4));
        Check.due("31 from the next one", 1, () -> x.reach(four, five, 1));
        Check.due("31 no steps", NO_ELEMENT, () -> x.reach(four, five, 0));
        for (int number : OUTSIDE) {
            Check.due("31 reach " + number, INDEX, () -> x.reach(number, four, 9));
            Check.due("31 reach to " + number, INDEX, () -> x.reach(d, number, 9));
        }
        Draw.fill(x, 60);
        Check.due("31 in a full room", 4, () -> x.reach(d, four, 4));
        Check.due("32 in a full room", 4, x::steps);
        Check.due("30 full", STATE, () -> x.simplify(d, 1));
        Check.due("32 the film stays", 4, x::steps);
    }

    private static void reachSteps() {
        Stringdrawer x = new Stringdrawer();
        rule(x, "2;3", "6");
        rule(x, "c;(2|2);a", "2;c;a");
        rule(x, "c;a", "2");
        int d = Draw.of(x, "c;(2|2);a;3");
        int goal = Draw.of(x, "2;6");
        Check.due("31 three steps", 3, () -> x.reach(d, goal, 4));
        Check.due("33 three steps", "1/0 2/0 0/0", () -> film(x));
        int shown = x.show(d);
        Check.due("35 shown", true, () -> x.areAlike(shown, goal));
    }

    private static void reachTooLarge() {
        Stringdrawer x = new Stringdrawer();
        rule(x, "2", "2;4");
        rule(x, "2", "3");
        int eleven = Draw.of(x, "1;1;1;1;1;1;1;1;1;1;1");
        int pairs = x.then(eleven, eleven);
        int most = x.then(x.then(pairs, x.box('2')), x.box('1'));
        int goal = x.then(x.then(pairs, x.box('3')), x.box('1'));
        Check.due("31 24 boxes", 24, () -> x.boxes(most));
        Check.due("31 a step that is none", 1, () -> x.reach(most, goal, 4));
        Check.due("33 the other rule", "1/0", () -> film(x));
        Check.due("31 none", NO_ELEMENT, () -> x.reach(most, eleven, 4));
        int two = x.then(pairs, x.box('2'));
        int last = x.then(x.then(pairs, x.box('3')), x.box('4'));
        Check.due("31 to 24 boxes", 2, () -> x.reach(two, last, 2));
        Check.due("33 to 24 boxes", "0/0 1/0", () -> film(x));
    }

    private static void reachMany() {
        reachMany("23 24 25 26 21");
        reachMany("23 32 24 42 25 52 26 62");
        reachMany("40 23 24 26 21 25");
        reachMany("60 50 23 24 25 26 21");
        reachMany("33 34 46 24 23 25 62");
    }

    /**
     * Makes so many first steps that the 200th diagram comes among those of two steps or three, and
     * looks for those that come ahead of it and behind it, as the plain model tells them.
     */
    private static void reachMany(String rules) {
        Plain model = new Plain();
        for (char kind = '0'; kind <= '6'; kind++) {
            model.box(kind);
        }
        for (String rule : rules.split(" ")) {
            model.rule(rule.charAt(0) - '0', rule.charAt(1) - '0');
        }
        int start = 2;
        for (int more = 0; more < 5; more++) {
            start = model.beside(start, 2);
        }
        List<List<Plain.Step>> films = model.films(start, 4, 330);
        for (int index = 0; index < films.size(); index += index < 195 ? 13 : 1) {
            reachNumber(manyRules(rules), films.get(index), index);
        }
    }

    private static Stringdrawer manyRules(String rules) {
        Stringdrawer x = new Stringdrawer();
        for (char kind = '0'; kind <= '6'; kind++) {
            x.box(kind);
        }
        for (String rule : rules.split(" ")) {
            x.rule(rule.charAt(0) - '0', rule.charAt(1) - '0');
        }
        int start = 2;
        for (int more = 0; more < 5; more++) {
            start = x.beside(start, 2);
        }
        return x;
    }

    private static void reachNumber(Stringdrawer x, List<Plain.Step> steps, int index) {
        int first = x.diagrams() - 1;
        int goal = first;
        StringBuilder text = new StringBuilder();
        for (Plain.Step step : steps) {
            goal = x.rewrite(goal, step.rule(), step.match());
            text.append(text.length() > 0 ? " " : "").append(step.rule()).append('/')
                    .append(step.match());
        }
        int asked = goal;
        Check.due("31 number " + index + " of many", index < 200 ? steps.size() : NO_ELEMENT,
                () -> x.reach(first, asked, 4));
        Check.due("33 34 number " + index + " of many", index < 200 ? text.toString() : "",
                () -> film(x));
    }

    /** Diagrams that are alike an earlier one are not counted, and not gone on with. */
    private static void reachAlike() {
        Stringdrawer x = new Stringdrawer();
        rule(x, "z;d", "u;n");
        rule(x, "u;n", "z;n");
        int d = Draw.of(x, "(z;d)|(z;d)|(z;d)");
        int goal = Draw.of(x, "(z;n)|(u;n)|(z;d)");
        Check.due("31 parts in any order", 3, () -> x.reach(d, goal, 4));
        Check.due("33 parts in any order", "0/0 0/0 1/0", () -> film(x));
        int last = Draw.of(x, "(z;n)|(z;n)|(u;n)");
        Check.due("31 five steps", NO_ELEMENT, () -> x.reach(d, last, 4));
        int four = Draw.of(x, "(z;d)|(z;n)|(z;n)");
        Check.due("31 four steps", 4, () -> x.reach(d, four, 4));
        Check.due("33 four steps", "0/0 0/0 1/0 1/0", () -> film(x));
    }

    /** Most of the 479001600 matches only exchange parts that are alike; they need not be tried. */
    private static void reachCopies() {
        Stringdrawer x = new Stringdrawer();
        int pair = Draw.of(x, "z;d");
        int six = sixTimes(x, pair);
        int twelve = x.beside(six, six);
        int other = sixTimes(x, Draw.of(x, "u;d"));
        int others = x.beside(other, other);
        x.rule(twelve, others);
        int taken = x.beside(sixTimes(x, x.box('z')), sixTimes(x, x.box('d')));
        x.rule(taken, x.beside(sixTimes(x, x.box('u')), sixTimes(x, x.box('n'))));
        Check.due("26 twelve parts", 479001600, () -> x.matches(twelve, 0));
        Check.due("26 six and six", 479001600, () -> x.matches(twelve, 1));
        Check.due("31 all exchanged", 1, () -> x.reach(twelve, others, 1));
        Check.due("34 all exchanged", "0/0", () -> film(x));
        Check.due("31 none", NO_ELEMENT, () -> x.reach(twelve, pair, 4));
        int half = x.beside(other, sixTimes(x, Draw.of(x, "z;n")));
        Check.due("31 six and six", 1, () -> x.reach(twelve, half, 4));
        Check.due("34 six and six", "1/0", () -> film(x));
        reachFirst("d:n", "(z;d)|(z;d)|(u;d)", "(z;d)|(z;d)|(u;n)", "0/2");
        reachFirst("d:n", "(z;d)|(z;d)|(u;d)", "(z;n)|(z;d)|(u;n)", "0/0 0/1");
        reachFirst("d|d:n|n", "(z;d)|(z;d)|(u;d)", "(z;d)|(z;n)|(u;n)", "0/1");
        reachFirst("d|d:n|d", "(u;d)|(z;d)|(z;d)|(z;d)", "(u;d)|(z;n)|(z;d)|(z;d)", "0/3");
    }

    private static int sixTimes(Stringdrawer x, int diagram) {
        int two = x.beside(diagram, diagram);
        return x.beside(two, x.beside(two, two));
    }

    /** The boxes of parts that are alike may come in any order, so that not all are exchanged. */
    private static void reachCrossedCopies() {
        String crossed = "(z|z);(c|c);(w|x|w);(w|w|x);(d|d|d|d)";
        reachFirst("d|d:n|n", crossed, "(z;c;(d|d))|(z;c;(n|n))", "0/2");
        reachFirst("d|d:n|n", crossed, "(z;c;(d|n))|(z;c;(d|n))", "0/8");
        reachFirst("d|d:n|n", crossed, "(z;c;(d|n))|(z;c;(n|d))", "0/1");
        reachFirst("d|d:n|n", crossed, "(z;c;(n|d))|(z;c;(n|d))", "0/0");
    }

    private static void show() {
        Stringdrawer x = new Stringdrawer();
        int d = Draw.of(x, "2|2");
        int before = x.diagrams();
        Check.due("35 an empty film", before, () -> x.show(d));
        Check.due("35 a diagram like it", Draw.told(x, d), () -> Draw.told(x, before));
        rule(x, "2", "3");
        rule(x, "3", "4;5");
        int goal = Draw.of(x, "2|(4;5)");
        Check.due("31 two steps", 2, () -> x.reach(d, goal, 4));
        Check.due("33 two steps", "0/1 1/0", () -> film(x));
        int other = Draw.of(x, "(3;2)|(2;2)");
        int number = x.diagrams();
        Check.due("35 number", number, () -> x.show(other));
        Check.due("35 shown", "2>2 28 24 3-2 4-1 56 .0,2", () -> Draw.told(x, number));
        Check.due("32 the film stays", "0/1 1/0", () -> film(x));
        Check.due("35 the other one stays", "2>2 3-1 20 2-2 24 .2,6", () -> Draw.told(x, other));
    }

    private static void showLimits() {
        Stringdrawer x = new Stringdrawer();
        int first = rule(x, "2", "3");
        rule(x, "3", "3;3");
        int d = Draw.of(x, "2;2");
        int goal = Draw.of(x, "2;3;3");
        Check.due("31 two steps", 2, () -> x.reach(d, goal, 4));
        Check.due("33 two steps", "0/1 1/0", () -> film(x));
        int one = Draw.of(x, "2");
        int none = Draw.of(x, "3;3");
        int four = Draw.of(x, "1;1;1;1");
        int twelve = x.then(x.then(four, four), four);
        int less = x.then(x.then(x.then(twelve, four), four), x.then(d, x.box('1')));
        int most = x.then(less, x.box('1'));
        Check.due("35 one match alone", NO_ELEMENT, () -> x.show(one));
        Check.due("35 no match", NO_ELEMENT, () -> x.show(none));
        Check.due("35 25 boxes", UNSUPPORTED, () -> x.show(most));
        Check.due("35 24 boxes", x.diagrams(), () -> x.show(less));
        Check.due("35 24 boxes", 24, () -> x.boxes(x.diagrams() - 1));
        for (int number : OUTSIDE) {
            Check.due("35 show " + number, INDEX, () -> x.show(number));
        }
        Check.due("32 the film stays", 2, x::steps);
        Check.due("25 rule", false, () -> x.isTrue(first));
        Draw.fill(x, 60);
        Check.due("35 full", STATE, () -> x.show(d));
        Check.due("35 full, 25 boxes", UNSUPPORTED, () -> x.show(most));
        Check.due("35 full, no match", NO_ELEMENT, () -> x.show(one));
        Check.due("35 full, none", INDEX, () -> x.show(60));
        Check.due("35 nothing made", 60, x::diagrams);
    }

    private static void sound() {
        String[][] rooms = {{"2;3:6", "2:3", "m;c:(w|c);(m|w)", "s;a:w", "z;d:e"},
            {"a;c:(c|c);(w|x|w);(a|a)", "d:u;n|d", "c;a:2"}, {"a;s:(s|w);(w|a)", "2;3:6", "0:d;z"}};
        for (String[] room : rooms) {
            Stringdrawer x = new Stringdrawer();
            for (String line : room) {
                String[] sides = line.split(":");
                Check.answer(() -> rule(x, sides[0], sides[1]));
            }
            Draw.of(x, "(m|a);(c|s);(2|m|0);(3|a)");
            int before = x.diagrams();
            Check.due("41 isSound", true, x::isSound);
            Check.due("41 nothing made", before, x::diagrams);
            Check.due("41 no film", 0, x::steps);
            Draw.fill(x, 60);
            Check.due("41 isSound in a full room", true, x::isSound);
        }
    }
}
