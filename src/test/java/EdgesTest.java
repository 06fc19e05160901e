import java.util.function.Function;
import java.util.function.Supplier;

/**
 * Refused calls in rooms that are empty, usual or full: the exception that is due, also where
 * several apply, and that diagrams, rules, the row and the film are as they were.
 */
public final class EdgesTest {
    private static final String INDEX = "throws.IndexOutOfBoundsException";
    private static final String ARGUMENT = "throws.IllegalArgumentException";
    private static final String STATE = "throws.IllegalStateException";
    private static final String UNSUPPORTED = "throws.UnsupportedOperationException";
    private static final String NO_ELEMENT = "throws.NoSuchElementException";
    private static final String NONE = "throws.ArithmeticException";

    private static final int MOST = Integer.MAX_VALUE;
    private static final int LEAST = Integer.MIN_VALUE;
    /** Neither a diagram nor a rule of the usual room. */
    private static final int[] OUTSIDE = {-1, 10, 11, 59, 60, 61, LEAST, MOST, 512, 65536, 1 << 30};

    private static Supplier<Stringdrawer> room;
    private static String told;

    public static void main(String[] args) {
        empty();
        usualDiagrams();
        usualMeanings();
        usualRules();
        usualFilms();
        full();
        fullSeveral();
        fullRules();
        fullRow();
        large();
        sixWires();
        noMatch();
        longFilm();
        outside();
        Check.end();
    }

    private static void in(Supplier<Stringdrawer> asked) {
        room = asked;
        told = State.of(asked.get());
    }

    /** Each refused call is made in a room of its own, which is like one without it afterwards. */
    private static void refused(String what, String due, Function<Stringdrawer, Object> call) {
        Stringdrawer x = room.get();
        Check.due(what, due, () -> call.apply(x));
        Check.due(what + " changed nothing", told, () -> State.of(x));
    }

    private static void answered(String what, Object due, Function<Stringdrawer, Object> call) {
        Stringdrawer x = room.get();
        Check.due(what, due, () -> call.apply(x));
    }

    /** Ten diagrams, of which 9 is simplified, two rules, two values, and a film of two steps. */
    private static Stringdrawer usual() {
        Stringdrawer x = new Stringdrawer();
        x.box('c');
        x.box('a');
        x.then(0, 1);
        x.box('2');
        x.wires(0);
        x.wires(2);
        x.box('0');
        x.then(3, 3);
        x.box('m');
        x.rule(2, 3);
        x.rule(3, 6);
        x.type(3);
        x.type(5);
        x.simplify(2, 2);
        return x;
    }

    private static Stringdrawer filled() {
        Stringdrawer x = usual();
        Draw.fill(x, 60);
        return x;
    }

    private static Stringdrawer ruled() {
        Stringdrawer x = usual();
        for (int rule = x.rules(); rule < 20; rule++) {
            x.rule(3, 7);
        }
        return x;
    }

    private static Stringdrawer typed() {
        Stringdrawer x = usual();
        for (int value = 2; value < 12; value++) {
            x.type(value % 7);
        }
        return x;
    }

    private static void empty() {
        in(Stringdrawer::new);
        refused("5 in an empty room", INDEX, x -> x.then(0, 0));
        refused("6 in an empty room", INDEX, x -> x.beside(0, 0));
        refused("7 in an empty room", INDEX, x -> x.turn(0));
        refused("8 in an empty room", INDEX, x -> x.inputs(0));
        refused("9 in an empty room", INDEX, x -> x.outputs(0));
        refused("10 in an empty room", INDEX, x -> x.boxes(0));
        refused("11 in an empty room", INDEX, x -> x.kindAt(0, 0));
        refused("12 in an empty room", INDEX, x -> x.source(0, 0, 0));
        refused("12 in an empty room", INDEX, x -> x.source(0, -1, 0));
        refused("13 in an empty room", INDEX, x -> x.depth(0));
        refused("14 in an empty room", INDEX, x -> x.areAlike(0, 0));
        refused("15 in an empty room", INDEX, x -> x.rank(0));
        refused("16 in an empty room", INDEX, x -> x.entry(0, 0, 0));
        refused("17 in an empty room", INDEX, x -> x.areEqual(0, 0));
        refused("18 in an empty room", INDEX, x -> x.apart(0, 0, 0));
        refused("19 in an empty room", INDEX, x -> x.isFunction(0));
        refused("22 in an empty room", INDEX, x -> x.value(0, 0));
        refused("23 in an empty room", INDEX, x -> x.holds(0));
        refused("24 in an empty room", INDEX, x -> x.rule(0, 0));
        refused("25 in an empty room", INDEX, x -> x.isTrue(0));
        refused("26 in an empty room", INDEX, x -> x.matches(0, 0));
        refused("27 in an empty room", INDEX, x -> x.broken(0, 0));
        refused("28 in an empty room", INDEX, x -> x.image(0, 0, 0, 0));
        refused("29 in an empty room", INDEX, x -> x.rewrite(0, 0, 0));
        refused("30 in an empty room", INDEX, x -> x.simplify(0, 1));
        refused("30 in an empty room, 0", INDEX, x -> x.simplify(0, 0));
        refused("31 in an empty room", INDEX, x -> x.reach(0, 0, 0));
        refused("31 in an empty room, 5", INDEX, x -> x.reach(0, 0, 5));
        refused("33 of an empty film", NO_ELEMENT, x -> x.ruleOf(0));
        refused("33 of an empty film", NO_ELEMENT, x -> x.ruleOf(-1));
        refused("34 of an empty film", NO_ELEMENT, x -> x.matchOf(0));
        refused("34 of an empty film", NO_ELEMENT, x -> x.matchOf(-1));
        refused("35 in an empty room", INDEX, x -> x.show(0));
        refused("39 in an empty room", NONE, Stringdrawer::trueShare);
        refused("40 in an empty room", NONE, Stringdrawer::meanRank);
        refused("2 in an empty room", ARGUMENT, x -> x.box('w'));
        refused("3 in an empty room", ARGUMENT, x -> x.wires(7));
        refused("4 in an empty room", ARGUMENT, x -> x.crossing(1, 6));
        refused("20 of an empty row", ARGUMENT, x -> x.type(7));
        answered("21 of an empty row", 0, Stringdrawer::erase);
        answered("32 of an empty film", 0, Stringdrawer::steps);
        answered("36 in an empty room", 0, Stringdrawer::diagrams);
        answered("37 in an empty room", 0, Stringdrawer::rules);
        answered("38 in an empty room", 0L, Stringdrawer::allBoxes);
        answered("41 in an empty room", true, Stringdrawer::isSound);
    }

    private static void usualDiagrams() {
        in(EdgesTest::usual);
        for (char kind : new char[] {'7', '/', 'b', 'e', 'C', 'w', ' ', 0, 65535, 256 + 'c'}) {
            refused("2 box " + (int) kind, ARGUMENT, x -> x.box(kind));
        }
        for (int many : new int[] {-1, 7, LEAST, MOST}) {
            refused("3 wires " + many, ARGUMENT, x -> x.wires(many));
            refused("4 crossing " + many, ARGUMENT, x -> x.crossing(many, 0));
            refused("4 crossing 0 " + many, ARGUMENT, x -> x.crossing(0, many));
        }
        for (int first = 1; first <= 6; first++) {
            int many = first;
            refused("4 seven cross", ARGUMENT, x -> x.crossing(many, 7 - many));
            answered("4 six cross", 10, x -> x.crossing(many, 6 - many));
        }
        refused("4 less than none", ARGUMENT, x -> x.crossing(7, -1));
        refused("5 two outputs, one input", UNSUPPORTED, x -> x.then(0, 0));
        refused("5 one output, two inputs", UNSUPPORTED, x -> x.then(1, 1));
        refused("5 no outputs, one input", UNSUPPORTED, x -> x.then(4, 3));
        refused("7 a box 0", UNSUPPORTED, x -> x.turn(6));
        refused("7 a box 0 among others", UNSUPPORTED, x -> x.turn(9));
        for (int box : new int[] {-1, 2, LEAST, MOST}) {
            refused("11 box " + box, INDEX, x -> x.kindAt(2, box));
        }
        refused("11 no boxes", INDEX, x -> x.kindAt(4, 0));
        for (int box : new int[] {-2, 2, LEAST, MOST}) {
            refused("12 box " + box, INDEX, x -> x.source(2, box, 0));
            refused("12 box " + box + ", no wire", INDEX, x -> x.source(2, box, -1));
        }
        for (int place : new int[] {-1, 2, LEAST, MOST}) {
            refused("12 wire " + place, NO_ELEMENT, x -> x.source(2, 1, place));
            refused("12 output " + place, NO_ELEMENT, x -> x.source(5, -1, place));
        }
        refused("12 a second wire into c", NO_ELEMENT, x -> x.source(2, 0, 1));
        refused("12 a second output", NO_ELEMENT, x -> x.source(2, -1, 1));
        refused("12 no outputs", NO_ELEMENT, x -> x.source(4, -1, 0));
        refused("12 no boxes", INDEX, x -> x.source(4, 0, 0));
        answered("12 the last box", 1, x -> x.source(2, 1, 1));
        answered("12 the last output", -2, x -> x.source(5, -1, 1));
    }

    private static void usualMeanings() {
        in(EdgesTest::usual);
        for (int row : new int[] {-1, 2, LEAST, MOST}) {
            refused("16 row " + row, NO_ELEMENT, x -> x.entry(1, row, 0));
        }
        for (int column : new int[] {-1, 3, LEAST, MOST}) {
            refused("16 column " + column, NO_ELEMENT, x -> x.entry(1, 0, column));
            refused("18 column " + column, NO_ELEMENT, x -> x.apart(7, 3, column));
            refused("18 no column, the same", NO_ELEMENT, x -> x.apart(2, 3, column));
            refused("18 no column, not as many", UNSUPPORTED, x -> x.apart(0, 1, column));
        }
        answered("16 the last number", 1, x -> x.entry(1, 1, 2));
        refused("16 no rows", NO_ELEMENT, x -> x.entry(4, 0, 0));
        refused("18 the same meaning", NO_ELEMENT, x -> x.apart(2, 3, 0));
        refused("18 the very same", NO_ELEMENT, x -> x.apart(4, 4, 0));
        refused("18 not as many outputs", UNSUPPORTED, x -> x.apart(0, 3, 0));
        refused("18 not as many inputs", UNSUPPORTED, x -> x.apart(1, 3, 0));
        refused("18 a column more", NO_ELEMENT, x -> x.apart(7, 3, 2));
        answered("18 the last column", 4, x -> x.apart(7, 3, 1));
        for (int value : new int[] {-1, 7, LEAST, MOST}) {
            refused("20 value " + value, ARGUMENT, x -> x.type(value));
        }
        for (int output : new int[] {-1, 1, LEAST, MOST}) {
            refused("22 output " + output, INDEX, x -> x.value(1, output));
            refused("22 no function, output " + output, INDEX, x -> x.value(8, output));
            refused("22 one input, output " + output, INDEX, x -> x.value(3, output));
        }
        refused("22 no function", UNSUPPORTED, x -> x.value(8, 0));
        refused("22 one input", UNSUPPORTED, x -> x.value(3, 0));
        refused("22 no outputs", INDEX, x -> x.value(4, 0));
        answered("22 two inputs", 1, x -> x.value(1, 0));
        answered("22 two inputs", 5, x -> x.value(5, 1));
        refused("23 three inputs and outputs", UNSUPPORTED, x -> x.holds(1));
        refused("23 no inputs and outputs", UNSUPPORTED, x -> x.holds(4));
        refused("23 four inputs and outputs", UNSUPPORTED, x -> x.holds(5));
        answered("23 two times 3", false, x -> x.holds(3));
        answered("23 four times 3", true, x -> x.holds(7));
    }

    private static void usualRules() {
        in(EdgesTest::usual);
        refused("24 not as many", UNSUPPORTED, x -> x.rule(0, 1));
        refused("24 not as many outputs", UNSUPPORTED, x -> x.rule(0, 3));
        refused("24 not as many inputs", UNSUPPORTED, x -> x.rule(1, 3));
        refused("24 no boxes", UNSUPPORTED, x -> x.rule(4, 4));
        refused("24 straight wires", UNSUPPORTED, x -> x.rule(5, 5));
        for (int rule : new int[] {-1, 2, 3, 19, 20, LEAST, MOST}) {
            refused("25 rule " + rule, INDEX, x -> x.isTrue(rule));
            refused("26 rule " + rule, INDEX, x -> x.matches(2, rule));
            refused("27 rule " + rule, INDEX, x -> x.broken(2, rule));
            refused("28 rule " + rule, INDEX, x -> x.image(2, rule, 0, 0));
            refused("28 rule " + rule + ", no match", INDEX, x -> x.image(2, rule, 9, 0));
            refused("29 rule " + rule, INDEX, x -> x.rewrite(2, rule, 0));
            refused("29 rule " + rule + ", no match", INDEX, x -> x.rewrite(2, rule, 9));
        }
        for (int match : new int[] {-1, 2, LEAST, MOST}) {
            refused("28 match " + match, NO_ELEMENT, x -> x.image(7, 1, match, 0));
            refused("28 match " + match + ", no box", INDEX, x -> x.image(7, 1, match, 1));
            refused("29 match " + match, NO_ELEMENT, x -> x.rewrite(7, 1, match));
        }
        for (int box : new int[] {-1, 2, LEAST, MOST}) {
            refused("28 box " + box, INDEX, x -> x.image(2, 0, 0, box));
            refused("28 box " + box + ", no match", INDEX, x -> x.image(2, 0, 1, box));
        }
        refused("28 none", NO_ELEMENT, x -> x.image(0, 0, 0, 0));
        refused("29 none", NO_ELEMENT, x -> x.rewrite(0, 0, 0));
        refused("29 nothing", NO_ELEMENT, x -> x.rewrite(4, 0, 0));
        answered("28 the last box of the last match", 1, x -> x.image(7, 1, 1, 0));
        answered("28 the last box", 1, x -> x.image(2, 0, 0, 1));
        answered("29 the last match", 10, x -> x.rewrite(7, 1, 1));
        answered("26 nothing", 0, x -> x.matches(4, 0));
        answered("27 nothing", 0, x -> x.broken(4, 0));
    }

    private static void usualFilms() {
        in(EdgesTest::usual);
        for (int most : new int[] {-1, 0, 31, LEAST, MOST}) {
            refused("30 most " + most, ARGUMENT, x -> x.simplify(2, most));
            refused("30 most " + most + ", no step", ARGUMENT, x -> x.simplify(4, most));
        }
        for (int most : new int[] {-1, 5, LEAST, MOST}) {
            refused("31 most " + most, ARGUMENT, x -> x.reach(2, 6, most));
            refused("31 most " + most + ", itself", ARGUMENT, x -> x.reach(2, 2, most));
            refused("31 most " + most + ", none", ARGUMENT, x -> x.reach(0, 1, most));
        }
        refused("31 not as many", NO_ELEMENT, x -> x.reach(0, 1, 4));
        refused("31 no way back", NO_ELEMENT, x -> x.reach(6, 2, 4));
        refused("31 one step of two", NO_ELEMENT, x -> x.reach(2, 6, 1));
        refused("31 no step of one", NO_ELEMENT, x -> x.reach(2, 3, 0));
        answered("31 two steps", 2, x -> x.reach(2, 6, 2));
        answered("31 one step", 1, x -> x.reach(2, 3, 1));
        answered("31 no step", 0, x -> x.reach(9, 6, 0));
        for (int step : new int[] {-1, 2, 29, 30, LEAST, MOST}) {
            refused("33 step " + step, NO_ELEMENT, x -> x.ruleOf(step));
            refused("34 step " + step, NO_ELEMENT, x -> x.matchOf(step));
        }
        answered("33 the last step", 1, x -> x.ruleOf(1));
        answered("34 the last step", 0, x -> x.matchOf(1));
        refused("35 no match", NO_ELEMENT, x -> x.show(0));
        refused("35 nothing", NO_ELEMENT, x -> x.show(4));
        answered("35 shown", 10, x -> x.show(2));
        answered("30 simplified", 10, x -> x.simplify(2, 30));
    }

    private static void full() {
        in(EdgesTest::filled);
        refused("2 full", STATE, x -> x.box('c'));
        refused("3 full", STATE, x -> x.wires(0));
        refused("4 full", STATE, x -> x.crossing(0, 0));
        refused("5 full", STATE, x -> x.then(0, 1));
        refused("5 full, nothing", STATE, x -> x.then(4, 4));
        refused("6 full", STATE, x -> x.beside(0, 1));
        refused("6 full, nothing", STATE, x -> x.beside(4, 4));
        refused("7 full", STATE, x -> x.turn(0));
        refused("7 full, nothing", STATE, x -> x.turn(4));
        refused("29 full", STATE, x -> x.rewrite(2, 0, 0));
        refused("30 full", STATE, x -> x.simplify(2, 30));
        refused("30 full, other steps", STATE, x -> x.simplify(7, 1));
        refused("30 full, without a step", STATE, x -> x.simplify(4, 1));
        refused("35 full", STATE, x -> x.show(2));
        answered("24 full", 2, x -> x.rule(3, 7));
        answered("31 full", 1, x -> x.reach(2, 3, 4));
        answered("26 full", 2, x -> x.matches(7, 1));
        answered("36 full", 60, Stringdrawer::diagrams);
        answered("8 the last one", 0, x -> x.inputs(59));
        answered("14 the last one", true, x -> x.areAlike(59, 4));
        answered("20 full", 3, x -> x.type(0));
        answered("41 full", true, Stringdrawer::isSound);
    }

    /** The exception that is listed first is thrown, in a room that is full. */
    private static void fullSeveral() {
        in(EdgesTest::filled);
        refused("2 full, no kind", ARGUMENT, x -> x.box('x'));
        refused("3 full, 7", ARGUMENT, x -> x.wires(7));
        refused("3 full, -1", ARGUMENT, x -> x.wires(-1));
        refused("4 full, 7", ARGUMENT, x -> x.crossing(3, 4));
        refused("4 full, -1", ARGUMENT, x -> x.crossing(3, -1));
        for (int number : new int[] {-1, 60, LEAST, MOST}) {
            refused("5 full, " + number, INDEX, x -> x.then(number, 0));
            refused("5 full, 0 " + number, INDEX, x -> x.then(0, number));
            refused("6 full, " + number, INDEX, x -> x.beside(number, 0));
            refused("6 full, 0 " + number, INDEX, x -> x.beside(0, number));
            refused("7 full, " + number, INDEX, x -> x.turn(number));
            refused("29 full, " + number, INDEX, x -> x.rewrite(number, 0, 0));
            refused("29 full, rule " + number, INDEX, x -> x.rewrite(2, number, 0));
            refused("29 full, match " + number, NO_ELEMENT, x -> x.rewrite(2, 0, number));
            refused("30 full, " + number, INDEX, x -> x.simplify(number, 1));
            refused("30 full, " + number + " 0", INDEX, x -> x.simplify(number, 0));
            refused("35 full, " + number, INDEX, x -> x.show(number));
        }
        refused("5 full, not as many", UNSUPPORTED, x -> x.then(0, 0));
        refused("7 full, a box 0", UNSUPPORTED, x -> x.turn(6));
        refused("29 full, no match", NO_ELEMENT, x -> x.rewrite(0, 0, 0));
        refused("30 full, 0", ARGUMENT, x -> x.simplify(2, 0));
        refused("30 full, 31", ARGUMENT, x -> x.simplify(2, 31));
        refused("31 full, 60", INDEX, x -> x.reach(60, 0, 1));
        refused("31 full, 5", ARGUMENT, x -> x.reach(0, 0, 5));
        refused("31 full, none", NO_ELEMENT, x -> x.reach(0, 1, 4));
        refused("35 full, no match", NO_ELEMENT, x -> x.show(0));
        refused("24 full, 60", INDEX, x -> x.rule(60, 0));
        refused("24 full, not as many", UNSUPPORTED, x -> x.rule(0, 1));
    }

    private static void fullRules() {
        in(EdgesTest::ruled);
        refused("24 a 21st", STATE, x -> x.rule(3, 7));
        refused("24 a 21st, not as many", UNSUPPORTED, x -> x.rule(0, 1));
        refused("24 a 21st, no boxes", UNSUPPORTED, x -> x.rule(4, 4));
        refused("24 a 21st, straight wires", UNSUPPORTED, x -> x.rule(5, 5));
        for (int number : new int[] {-1, 10, LEAST, MOST}) {
            refused("24 a 21st, " + number, INDEX, x -> x.rule(number, 3));
            refused("24 a 21st, 3 " + number, INDEX, x -> x.rule(3, number));
        }
        for (int rule : new int[] {-1, 20, 21, LEAST, MOST}) {
            refused("25 rule " + rule, INDEX, x -> x.isTrue(rule));
            refused("26 rule " + rule, INDEX, x -> x.matches(3, rule));
            refused("27 rule " + rule, INDEX, x -> x.broken(3, rule));
            refused("28 rule " + rule, INDEX, x -> x.image(3, rule, 0, 0));
            refused("29 rule " + rule, INDEX, x -> x.rewrite(3, rule, 0));
        }
        answered("37 all rules", 20, Stringdrawer::rules);
        answered("25 the last rule", false, x -> x.isTrue(19));
        answered("26 the last rule", 2, x -> x.matches(7, 19));
        answered("28 the last rule", 1, x -> x.image(7, 19, 1, 0));
        answered("29 the last rule", 10, x -> x.rewrite(7, 19, 0));
        answered("2 with all rules", 10, x -> x.box('c'));
        answered("39 one of 20", 1.0f / 20.0f, Stringdrawer::trueShare);
    }

    private static void fullRow() {
        in(EdgesTest::typed);
        refused("20 a 13th", STATE, x -> x.type(0));
        refused("20 a 13th", STATE, x -> x.type(6));
        refused("20 a wrong 13th", ARGUMENT, x -> x.type(7));
        refused("20 a wrong 13th", ARGUMENT, x -> x.type(-1));
        refused("22 a full row", UNSUPPORTED, x -> x.value(1, 0));
        refused("22 a full row, no output", INDEX, x -> x.value(1, 1));
        refused("23 a full row", UNSUPPORTED, x -> x.holds(1));
        answered("21 a full row", 12, Stringdrawer::erase);
        answered("23 twelve", false, x -> x.holds(x.wires(6)));
        answered("20 a 12th", 12, x -> {
            x.erase();
            for (int value = 0; value < 11; value++) {
                x.type(6);
            }
            return x.type(0);
        });
    }

    /** 24 boxes '2', one behind the other, and a rule that makes two of one. */
    private static Stringdrawer longest() {
        Stringdrawer x = new Stringdrawer();
        x.box('2');
        x.then(0, 0);
        x.then(1, 1);
        x.then(2, 2);
        x.then(3, 3);
        x.then(4, 3);
        x.then(4, 2);
        x.then(6, 1);
        x.then(7, 0);
        x.rule(0, 1);
        x.type(2);
        x.simplify(0, 2);
        return x;
    }

    private static Stringdrawer longestFilled() {
        Stringdrawer x = longest();
        Draw.fill(x, 60);
        return x;
    }

    private static void large() {
        in(EdgesTest::longest);
        tooLarge("");
        answered("5 24 boxes", 10, x -> x.then(8, 0));
        answered("6 24 boxes", 10, x -> x.beside(8, 0));
        answered("7 24 boxes", 10, x -> x.turn(5));
        answered("29 24 boxes", 10, x -> x.rewrite(8, 0, 22));
        answered("30 24 boxes", 10, x -> x.simplify(8, 1));
        answered("35 24 boxes", 10, x -> x.show(7));
        answered("31 24 boxes", 1, x -> x.reach(8, 5, 4));
        in(EdgesTest::longestFilled);
        tooLarge(" full,");
        refused("5 full, 24 boxes", STATE, x -> x.then(8, 0));
        refused("6 full, 24 boxes", STATE, x -> x.beside(8, 0));
        refused("7 full, 24 boxes", STATE, x -> x.turn(5));
        refused("29 full, 24 boxes", STATE, x -> x.rewrite(8, 0, 22));
        refused("30 full, 24 boxes", STATE, x -> x.simplify(8, 1));
        refused("35 full, 24 boxes", STATE, x -> x.show(7));
    }

    /** 24 boxes, or 23, and one more; where another exception is listed first, it is thrown. */
    private static void tooLarge(String what) {
        refused("5" + what + " 25 boxes", UNSUPPORTED, x -> x.then(5, 0));
        refused("5" + what + " 25 boxes", UNSUPPORTED, x -> x.then(0, 5));
        refused("5" + what + " 48 boxes", UNSUPPORTED, x -> x.then(5, 5));
        refused("6" + what + " 25 boxes", UNSUPPORTED, x -> x.beside(5, 0));
        refused("6" + what + " 25 boxes", UNSUPPORTED, x -> x.beside(0, 5));
        refused("6" + what + " 48 boxes", UNSUPPORTED, x -> x.beside(5, 5));
        refused("29" + what + " 25 boxes", UNSUPPORTED, x -> x.rewrite(5, 0, 0));
        refused("29" + what + " 25 boxes", UNSUPPORTED, x -> x.rewrite(5, 0, 23));
        refused("29" + what + " 25 boxes, no match", NO_ELEMENT, x -> x.rewrite(5, 0, 24));
        refused("29" + what + " 25 boxes, no match", NO_ELEMENT, x -> x.rewrite(5, 0, -1));
        refused("29" + what + " 25 boxes, no rule", INDEX, x -> x.rewrite(5, 1, 0));
        refused("30" + what + " 25 boxes", UNSUPPORTED, x -> x.simplify(5, 1));
        refused("30" + what + " 24 boxes, then 25", UNSUPPORTED, x -> x.simplify(8, 2));
        refused("30" + what + " 25 boxes at last", UNSUPPORTED, x -> x.simplify(0, 30));
        refused("30" + what + " 25 boxes, 0", ARGUMENT, x -> x.simplify(5, 0));
        refused("30" + what + " 25 boxes, 31", ARGUMENT, x -> x.simplify(5, 31));
        refused("31" + what + " 25 boxes", NO_ELEMENT, x -> x.reach(5, 8, 4));
        refused("31" + what + " 24 boxes, no more", NO_ELEMENT, x -> x.reach(8, 0, 4));
        refused("35" + what + " 25 boxes", UNSUPPORTED, x -> x.show(5));
        refused("35" + what + " 24 boxes, then 25", UNSUPPORTED, x -> x.show(8));
        refused("35" + what + " none", INDEX, x -> x.show(60));
    }

    /** Wires 6, 1, 3 and 4, then boxes with an output or an input alone. */
    private static Stringdrawer wide() {
        Stringdrawer x = new Stringdrawer();
        x.wires(6);
        x.wires(1);
        x.wires(3);
        x.wires(4);
        x.box('u');
        x.box('n');
        x.box('c');
        x.crossing(1, 5);
        return x;
    }

    private static Stringdrawer wideFilled() {
        Stringdrawer x = wide();
        Draw.fill(x, 60);
        return x;
    }

    private static void tooWide(String what) {
        refused("6" + what + " seven wires", UNSUPPORTED, x -> x.beside(0, 1));
        refused("6" + what + " seven wires", UNSUPPORTED, x -> x.beside(1, 0));
        refused("6" + what + " seven wires", UNSUPPORTED, x -> x.beside(2, 3));
        refused("6" + what + " twelve wires", UNSUPPORTED, x -> x.beside(0, 7));
        refused("6" + what + " seven outputs", UNSUPPORTED, x -> x.beside(0, 4));
        refused("6" + what + " seven outputs", UNSUPPORTED, x -> x.beside(4, 0));
        refused("6" + what + " seven inputs", UNSUPPORTED, x -> x.beside(0, 5));
        refused("6" + what + " seven inputs", UNSUPPORTED, x -> x.beside(5, 0));
        refused("6" + what + " too wide, none", INDEX, x -> x.beside(0, 60));
        refused("5" + what + " six and five", UNSUPPORTED, x -> x.then(0, 3));
        refused("24" + what + " six wires", UNSUPPORTED, x -> x.rule(0, 7));
    }

    private static void sixWires() {
        in(EdgesTest::wide);
        tooWide("");
        answered("6 six wires", 8, x -> x.beside(2, 2));
        answered("6 five inputs, six outputs", 8, x -> x.beside(3, 6));
        answered("6 one and one", 8, x -> x.beside(5, 4));
        answered("5 six wires", 8, x -> x.then(7, 7));
        in(EdgesTest::wideFilled);
        tooWide(" full,");
        refused("6 full, six wires", STATE, x -> x.beside(2, 2));
        refused("5 full, six wires", STATE, x -> x.then(7, 7));
    }

    /** The film is the second match of a rule that makes two boxes of one. */
    private static Stringdrawer secondMatch() {
        Stringdrawer x = new Stringdrawer();
        int two = x.box('2');
        int three = x.box('3');
        int pair = x.then(two, two);
        x.rule(two, x.then(three, three));
        int goal = x.then(two, 3);
        x.reach(pair, goal, 1);
        int four = x.then(3, 3);
        int eight = x.then(four, four);
        int sixteen = x.then(eight, eight);
        int many = x.then(x.then(sixteen, four), 3);
        x.then(many, two);
        x.then(x.diagrams() - 1, three);
        return x;
    }

    private static Stringdrawer secondMatchFilled() {
        Stringdrawer x = secondMatch();
        Draw.fill(x, 60);
        return x;
    }

    private static void noMatch() {
        in(EdgesTest::secondMatch);
        answered("34 the second match", 1, x -> x.matchOf(0));
        answered("10 24 boxes", 24, x -> x.boxes(x.diagrams() - 1));
        answered("26 one match", 1, x -> x.matches(x.diagrams() - 1, 0));
        refused("35 one match", NO_ELEMENT, x -> x.show(0));
        refused("35 one match, 25 boxes", NO_ELEMENT, x -> x.show(x.diagrams() - 1));
        refused("29 one match, 25 boxes", NO_ELEMENT, x -> x.rewrite(x.diagrams() - 1, 0, 1));
        refused("29 25 boxes", UNSUPPORTED, x -> x.rewrite(x.diagrams() - 1, 0, 0));
        in(EdgesTest::secondMatchFilled);
        refused("35 full, one match", NO_ELEMENT, x -> x.show(0));
        refused("35 full, two matches", STATE, x -> x.show(2));
    }

    /** A film of 30 steps, in which each '2' is its own end. */
    private static Stringdrawer filmed() {
        Stringdrawer x = usual();
        x.rule(3, 3);
        x.rule(6, 3);
        x.simplify(6, 30);
        return x;
    }

    private static void longFilm() {
        in(EdgesTest::filmed);
        answered("32 thirty steps", 30, Stringdrawer::steps);
        answered("33 the first step", 3, x -> x.ruleOf(0));
        answered("33 the last step", 1, x -> x.ruleOf(29));
        answered("34 the last step", 0, x -> x.matchOf(29));
        for (int step : new int[] {-1, 30, 31, LEAST, MOST}) {
            refused("33 step " + step, NO_ELEMENT, x -> x.ruleOf(step));
            refused("34 step " + step, NO_ELEMENT, x -> x.matchOf(step));
        }
        refused("30 31 steps", ARGUMENT, x -> x.simplify(6, 31));
        refused("30 no steps", ARGUMENT, x -> x.simplify(6, 0));
        refused("31 none", NO_ELEMENT, x -> x.reach(6, 1, 4));
        refused("31 five steps", ARGUMENT, x -> x.reach(6, 6, 5));
        refused("35 no match", NO_ELEMENT, x -> x.show(0));
        answered("35 thirty steps", 11, x -> x.show(6));
    }

    private static void outside() {
        in(EdgesTest::usual);
        for (int number : OUTSIDE) {
            for (Numbers.Call call : Numbers.OF_DIAGRAMS) {
                refused(call.what() + " " + number, INDEX, x -> call.on().apply(x, number));
            }
        }
        in(EdgesTest::filled);
        for (Numbers.Call call : Numbers.OF_DIAGRAMS) {
            refused(call.what() + " of 60", INDEX, x -> call.on().apply(x, 60));
        }
    }
}
