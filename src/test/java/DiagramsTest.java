import java.util.ArrayList;
import java.util.List;

/** Promises 1 to 14, 36 and 38: how diagrams are made, and what they are made of. */
public final class DiagramsTest {
    private static final String INDEX = "throws.IndexOutOfBoundsException";
    private static final String ARGUMENT = "throws.IllegalArgumentException";
    private static final String STATE = "throws.IllegalStateException";
    private static final String UNSUPPORTED = "throws.UnsupportedOperationException";
    private static final String NO_ELEMENT = "throws.NoSuchElementException";
    private static final int[] OUTSIDE = {-1, Integer.MIN_VALUE, Integer.MAX_VALUE, 60, 59, 1000};

    public static void main(String[] args) {
        newObject();
        box();
        wires();
        crossing();
        then();
        thenLimits();
        beside();
        besideLimits();
        turn();
        allPlaces();
        counts();
        kindAt();
        source();
        depth();
        alike();
        alikeParts();
        alikeDoubled();
        alikeWires();
        alikeManyParts();
        alikeBackwards();
        alikeFromTheEnd();
        Check.end();
    }

    private static void newObject() {
        Stringdrawer x = new Stringdrawer();
        Check.due("1 diagrams", 0, x::diagrams);
        Check.due("1 rules", 0, x::rules);
        Check.due("1 steps", 0, x::steps);
        Check.due("1 allBoxes", 0L, x::allBoxes);
        Check.due("1 erase", 0, x::erase);
        Check.due("1 isSound", true, x::isSound);
        Check.due("1 trueShare", "throws.ArithmeticException", x::trueShare);
        Check.due("1 meanRank", "throws.ArithmeticException", x::meanRank);
        Check.due("1 ruleOf", NO_ELEMENT, () -> x.ruleOf(0));
        Check.due("1 matchOf", NO_ELEMENT, () -> x.matchOf(0));
        Check.due("1 inputs", INDEX, () -> x.inputs(0));
        Check.due("1 isTrue", INDEX, () -> x.isTrue(0));
        Check.due("1 first number", 0, () -> x.wires(0));
        Check.due("1 holds", true, () -> x.holds(0));
        Check.due("1 show", 1, () -> x.show(0));
    }

    private static void box() {
        Stringdrawer x = new Stringdrawer();
        String[] due = {"c 1>2 c-1 .0,1", "d 1>0 d-1 .", "a 2>1 a-1,-2 .0", "z 0>1 z .0",
            "m 2>1 m-1,-2 .0", "u 0>1 u .0", "s 1>2 s-1 .0,1", "n 1>0 n-1 .", "0 1>1 0-1 .0",
            "1 1>1 1-1 .0", "2 1>1 2-1 .0", "3 1>1 3-1 .0", "4 1>1 4-1 .0", "5 1>1 5-1 .0",
            "6 1>1 6-1 .0"};
        for (int kind = 0; kind < due.length; kind++) {
            int number = kind;
            String line = due[kind];
            Check.due("2 box " + line, number, () -> x.box(line.charAt(0)));
            Check.due("2 box " + line, line.substring(2), () -> Draw.told(x, number));
        }
        for (int sign = 0; sign < 70000; sign += sign < 300 ? 1 : 777) {
            char kind = (char) sign;
            if ("cdazmusn0123456".indexOf(kind) < 0) {
                Check.due("2 box " + sign, ARGUMENT, () -> x.box(kind));
            }
        }
        Check.due("2 nothing made", 15, x::diagrams);
        Draw.fill(x, 59);
        Check.due("2 box 60", 59, () -> x.box('c'));
        Check.due("2 box 61", STATE, () -> x.box('c'));
        Check.due("2 wrong box 61", ARGUMENT, () -> x.box('7'));
        Check.due("2 nothing made", 60, x::diagrams);
    }

    private static void wires() {
        Stringdrawer x = new Stringdrawer();
        for (int many = 0; many <= 6; many++) {
            int wanted = many;
            String ends = ",-1,-2,-3,-4,-5,-6".substring(0, 3 * many);
            Check.due("3 wires " + many, many, () -> x.wires(wanted));
            Check.due("3 wires " + many, many + ">" + many + " ."
                    + (many > 0 ? ends.substring(1) : ""), () -> Draw.told(x, wanted));
        }
        for (int many : new int[] {-1, 7, 60, Integer.MIN_VALUE, Integer.MAX_VALUE}) {
            Check.due("3 wires " + many, ARGUMENT, () -> x.wires(many));
        }
        Draw.fill(x, 60);
        Check.due("3 wires in a full room", STATE, () -> x.wires(0));
        Check.due("3 wrong wires in a full room", ARGUMENT, () -> x.wires(7));
        Check.due("3 nothing made", 60, x::diagrams);
    }

    private static void crossing() {
        Stringdrawer x = new Stringdrawer();
        String[] due = {"0 0 0>0 .", "1 1 2>2 .-2,-1", "2 3 5>5 .-3,-4,-5,-1,-2",
            "0 6 6>6 .-1,-2,-3,-4,-5,-6", "6 0 6>6 .-1,-2,-3,-4,-5,-6",
            "1 5 6>6 .-2,-3,-4,-5,-6,-1", "3 1 4>4 .-4,-1,-2,-3"};
        for (String line : due) {
            int number = x.diagrams();
            Check.due("4 crossing " + line, number,
                    () -> x.crossing(line.charAt(0) - '0', line.charAt(2) - '0'));
            Check.due("4 crossing " + line, line.substring(4), () -> Draw.told(x, number));
        }
        int[][] wrong = {{-1, 2}, {2, -1}, {7, 0}, {0, 7}, {4, 3}, {3, 4}, {7, -1}, {-1, 7},
            {Integer.MAX_VALUE, Integer.MAX_VALUE}, {Integer.MIN_VALUE, Integer.MIN_VALUE},
            {Integer.MAX_VALUE, 1}, {1, Integer.MAX_VALUE}, {0, Integer.MIN_VALUE}};
        for (int[] pair : wrong) {
            Check.due("4 crossing " + pair[0] + " " + pair[1], ARGUMENT,
                    () -> x.crossing(pair[0], pair[1]));
        }
        Draw.fill(x, 60);
        Check.due("4 crossing in a full room", STATE, () -> x.crossing(1, 1));
        Check.due("4 wrong crossing in a full room", ARGUMENT, () -> x.crossing(4, 3));
    }

    private static void then() {
        Stringdrawer x = new Stringdrawer();
        int c = x.box('c');
        int a = x.box('a');
        Check.due("5 number", 2, () -> x.then(c, a));
        Check.due("5 c then a", "1>1 c-1 a0,1 .2", () -> Draw.told(x, 2));
        int ac = x.then(a, c);
        Check.due("5 a then c", "2>2 a-1,-2 c0 .2,3", () -> Draw.told(x, ac));
        int cross = x.crossing(1, 1);
        int cx = x.then(c, cross);
        Check.due("5 c then x", "1>2 c-1 .1,0", () -> Draw.told(x, cx));
        int cxa = x.then(cx, a);
        Check.due("5 c, x, a", "1>1 c-1 a1,0 .2", () -> Draw.told(x, cxa));
        int xa = x.then(cross, a);
        Check.due("5 x then a", "2>1 a-2,-1 .0", () -> Draw.told(x, xa));
        int xx = x.then(cross, cross);
        Check.due("5 x then x", "2>2 .-1,-2", () -> Draw.told(x, xx));
        int z = x.box('z');
        int d = x.box('d');
        int zd = x.then(z, d);
        Check.due("5 z then d", "0>0 z d0 .", () -> Draw.told(x, zd));
        int dz = x.then(d, z);
        Check.due("5 d then z", "1>1 d-1 z .2", () -> Draw.told(x, dz));
        Check.due("5 c unchanged", "1>2 c-1 .0,1", () -> Draw.told(x, c));
        Check.due("5 with itself", "1>1 2-1 20 .2", () -> {
            int two = x.box('2');
            return Draw.told(x, x.then(two, two));
        });
        Check.due("5 order of many", "1>1 c-1 30 21 a2,4 .6", () ->
                Draw.told(x, Draw.of(x, "c;(3|2);a")));
        Check.due("5 wires cross boxes", "2>2 2-2 3-1 .0,2", () ->
                Draw.told(x, Draw.of(x, "x;(2|3)")));
        Check.due("5 boxes before a crossing", "2>2 2-1 3-2 .2,0", () ->
                Draw.told(x, Draw.of(x, "(2|3);x")));
    }

    private static void thenLimits() {
        Stringdrawer x = new Stringdrawer();
        int one = x.box('2');
        int two = x.then(one, one);
        int four = x.then(two, two);
        int eight = x.then(four, four);
        int sixteen = x.then(eight, eight);
        int most = x.then(sixteen, eight);
        int wire = x.wires(1);
        int c = x.box('c');
        Check.due("5 24 boxes", 24, () -> x.boxes(most));
        Check.due("5 24 boxes deep", 24, () -> x.depth(most));
        Check.due("5 24 and 1 boxes", UNSUPPORTED, () -> x.then(most, one));
        Check.due("5 1 and 24 boxes", UNSUPPORTED, () -> x.then(one, most));
        Check.due("5 16 and 16 boxes", UNSUPPORTED, () -> x.then(sixteen, sixteen));
        Check.due("5 24 boxes and none", 8, () -> x.then(most, wire));
        Check.due("5 not as many", UNSUPPORTED, () -> x.then(c, c));
        Check.due("5 not as many", UNSUPPORTED, () -> x.then(c, one));
        for (int number : OUTSIDE) {
            Check.due("5 then " + number, INDEX, () -> x.then(number, c));
            Check.due("5 then c " + number, INDEX, () -> x.then(c, number));
        }
        Check.due("5 then at the end", INDEX, () -> x.then(c, x.diagrams()));
        Check.due("5 nothing made", 9, x::diagrams);
        Draw.fill(x, 60);
        Check.due("5 full", STATE, () -> x.then(one, one));
        Check.due("5 full, too large", UNSUPPORTED, () -> x.then(most, one));
        Check.due("5 full, none", INDEX, () -> x.then(60, one));
        Check.due("5 nothing made", 60, x::diagrams);
    }

    private static void beside() {
        Stringdrawer x = new Stringdrawer();
        int c = x.box('c');
        int a = x.box('a');
        Check.due("6 number", 2, () -> x.beside(c, a));
        Check.due("6 c beside a", "3>3 c-1 a-2,-3 .0,1,2", () -> Draw.told(x, 2));
        int wired = x.beside(x.wires(2), c);
        Check.due("6 wires beside c", "3>4 c-3 .-1,-2,0,1", () -> Draw.told(x, wired));
        int crossed = x.beside(c, x.crossing(1, 2));
        Check.due("6 c beside wires", "4>5 c-1 .0,1,-3,-4,-2", () -> Draw.told(x, crossed));
        int z = x.box('z');
        int n = x.box('n');
        int zn = x.beside(z, n);
        Check.due("6 z beside n", "1>1 z n-1 .0", () -> Draw.told(x, zn));
        int nz = x.beside(n, z);
        Check.due("6 n beside z", "1>1 n-1 z .2", () -> Draw.told(x, nz));
        int closed = x.then(z, n);
        int both = x.beside(closed, nz);
        Check.due("6 closed ones", "1>1 z n0 n-1 z .6", () -> Draw.told(x, both));
        int none = x.wires(0);
        Check.due("6 nothing beside c", "1>2 c-1 .0,1", () -> Draw.told(x, x.beside(none, c)));
        Check.due("6 c beside nothing", "1>2 c-1 .0,1", () -> Draw.told(x, x.beside(c, none)));
        Check.due("6 c unchanged", "1>2 c-1 .0,1", () -> Draw.told(x, c));
    }

    private static void besideLimits() {
        Stringdrawer x = new Stringdrawer();
        int closed = Draw.of(x, "z;d");
        int many = closed;
        for (int add = 0; add < 11; add++) {
            many = x.beside(many, closed);
        }
        int most = many;
        Check.due("6 24 boxes", 24, () -> x.boxes(most));
        Check.due("6 24 and 2 boxes", UNSUPPORTED, () -> x.beside(most, closed));
        Check.due("6 2 and 24 boxes", UNSUPPORTED, () -> x.beside(closed, most));
        int three = x.wires(3);
        int four = x.wires(4);
        Check.due("6 six wires", x.diagrams(), () -> x.beside(three, three));
        Check.due("6 seven wires", UNSUPPORTED, () -> x.beside(three, four));
        Check.due("6 seven wires", UNSUPPORTED, () -> x.beside(four, three));
        int outs = Draw.of(x, "u|u|u|u");
        int ins = Draw.of(x, "n|n|n|n");
        Check.due("6 seven outputs", UNSUPPORTED, () -> x.beside(outs, three));
        Check.due("6 seven inputs", UNSUPPORTED, () -> x.beside(three, ins));
        Check.due("6 four and four", x.diagrams(), () -> x.beside(outs, ins));
        for (int number : OUTSIDE) {
            Check.due("6 beside " + number, INDEX, () -> x.beside(number, closed));
            Check.due("6 beside closed " + number, INDEX, () -> x.beside(closed, number));
        }
        Check.due("6 beside at the end", INDEX, () -> x.beside(x.diagrams(), closed));
        Draw.fill(x, 60);
        Check.due("6 full", STATE, () -> x.beside(closed, closed));
        Check.due("6 full, too large", UNSUPPORTED, () -> x.beside(most, closed));
        Check.due("6 full, none", INDEX, () -> x.beside(0, 60));
        Check.due("6 nothing made", 60, x::diagrams);
    }

    private static void turn() {
        Stringdrawer x = new Stringdrawer();
        String kinds = "cdazmusn123456";
        String turned = "musncdaz145236";
        for (int index = 0; index < kinds.length(); index++) {
            int box = x.box(kinds.charAt(index));
            char due = turned.charAt(index);
            Check.due("7 turn " + kinds.charAt(index), Draw.told(x, x.box(due)),
                    () -> Draw.told(x, x.turn(box)));
        }
        Stringdrawer y = new Stringdrawer();
        int d = Draw.of(y, "c;(2|w);(w|d|z)");
        Check.due("7 turn many", "2>1 m2,4 4-1 u n-2 .0", () -> Draw.told(y, y.turn(d)));
        int wires = y.crossing(1, 2);
        Check.due("7 turn wires", "3>3 .-3,-1,-2", () -> Draw.told(y, y.turn(wires)));
        Check.due("7 turn twice", Draw.told(y, d), () -> Draw.told(y, y.turn(y.turn(d))));
        int nil = y.box('0');
        int pair = y.beside(d, nil);
        int before = y.diagrams();
        Check.due("7 turn 0", UNSUPPORTED, () -> y.turn(nil));
        Check.due("7 turn with a 0", UNSUPPORTED, () -> y.turn(pair));
        Check.due("7 number", before, () -> y.turn(d));
        for (int number : OUTSIDE) {
            Check.due("7 turn " + number, INDEX, () -> y.turn(number));
        }
        Check.due("7 turn at the end", INDEX, () -> y.turn(y.diagrams()));
        Draw.fill(y, 60);
        Check.due("7 full", STATE, () -> y.turn(d));
        Check.due("7 full, 0", UNSUPPORTED, () -> y.turn(nil));
        Check.due("7 full, none", INDEX, () -> y.turn(60));
        Check.due("7 nothing made", 60, y::diagrams);
    }

    /** All six inputs and outputs, and both wires of the last of 24 boxes. */
    private static void allPlaces() {
        Stringdrawer x = new Stringdrawer();
        int three = x.crossing(1, 2);
        int six = x.beside(three, three);
        Check.due("6 six wires", "6>6 .-2,-3,-1,-5,-6,-4", () -> Draw.told(x, six));
        int twice = x.then(six, six);
        Check.due("5 six wires", "6>6 .-3,-1,-2,-6,-4,-5", () -> Draw.told(x, twice));
        int turned = x.turn(six);
        Check.due("7 six wires", "6>6 .-3,-1,-2,-6,-4,-5", () -> Draw.told(x, turned));
        int boxes = Draw.of(x, "2|3|4|5|6|1");
        int many = x.then(x.then(six, boxes), six);
        Check.due("5 six boxes", "6>6 2-2 3-3 4-1 5-5 6-6 1-4 .2,4,0,8,10,6",
                () -> Draw.told(x, many));
        Check.due("7 six boxes", "6>6 4-3 5-1 2-2 3-6 6-4 1-5 .4,0,2,10,6,8",
                () -> Draw.told(x, x.turn(many)));
        lastBox();
    }

    private static void lastBox() {
        Stringdrawer x = new Stringdrawer();
        int seven = Draw.of(x, "1;1;1;1;1;1;1");
        int chain = x.then(x.then(x.then(seven, seven), seven), x.box('1'));
        int split = x.then(x.then(chain, x.box('1')), x.box('c'));
        int both = x.then(x.then(x.box('c'), x.beside(chain, x.wires(1))), x.box('a'));
        int[] diagrams = {split, x.turn(split), both, x.turn(both), x.beside(split, x.wires(4))};
        int[][] due = {{-1, 44, 99, 46, 47}, {2, -1, -2, 0, 99}, {-1, 44, 1, 46, 99},
            {2, -1, 99, 0, 99}, {-1, 44, 99, 46, 47}};
        for (int index = 0; index < diagrams.length; index++) {
            int d = diagrams[index];
            int[] wanted = due[index];
            Check.due("10 24 boxes", 24, () -> x.boxes(d));
            Check.due("13 24 boxes", 24, () -> x.depth(d));
            Check.due("12 the first box", wanted[0], () -> x.source(d, 0, 0));
            Check.due("12 the last box", wanted[1], () -> x.source(d, 23, 0));
            Check.due("12 the last box, 1", wanted[2] == 99 ? NO_ELEMENT : wanted[2],
                    () -> x.source(d, 23, 1));
            Check.due("12 output 0", wanted[3], () -> x.source(d, -1, 0));
            Check.due("12 output 1", wanted[4] == 99 ? NO_ELEMENT : wanted[4],
                    () -> x.source(d, -1, 1));
        }
        Check.due("12 from the last box", 47, () -> x.source(diagrams[3], 0, 1));
        Check.due("12 from the last box", 46, () -> x.source(diagrams[3], 22, 0));
        Check.due("12 the last input", -5, () -> x.source(diagrams[4], -1, 5));
        Check.due("16 from the first to the last", 1, () -> x.entry(diagrams[0], 0, 2));
        Check.due("16 added", 2, () -> x.entry(diagrams[2], 0, 1));
        Check.due("41 isSound", true, x::isSound);
    }

    private static void counts() {
        Stringdrawer x = new Stringdrawer();
        int d = Draw.of(x, "(c|a);(w|w|d)");
        Check.due("8 inputs", 3, () -> x.inputs(d));
        Check.due("9 outputs", 2, () -> x.outputs(d));
        Check.due("10 boxes", 3, () -> x.boxes(d));
        Check.due("36 diagrams", d + 1, x::diagrams);
        Check.due("38 allBoxes", 1L + 1 + 2 + 0 + 0 + 0 + 1 + 1 + 3, x::allBoxes);
        int wires = x.wires(6);
        Check.due("8 inputs of wires", 6, () -> x.inputs(wires));
        Check.due("9 outputs of wires", 6, () -> x.outputs(wires));
        Check.due("10 boxes of wires", 0, () -> x.boxes(wires));
        Check.due("36 diagrams", d + 2, x::diagrams);
        for (int number : OUTSIDE) {
            Check.due("8 inputs " + number, INDEX, () -> x.inputs(number));
            Check.due("9 outputs " + number, INDEX, () -> x.outputs(number));
            Check.due("10 boxes " + number, INDEX, () -> x.boxes(number));
        }
        Check.due("8 inputs at the end", INDEX, () -> x.inputs(x.diagrams()));
        Check.due("9 outputs at the end", INDEX, () -> x.outputs(x.diagrams()));
        Check.due("10 boxes at the end", INDEX, () -> x.boxes(x.diagrams()));
        Draw.fill(x, 60);
        Check.due("36 all diagrams", 60, x::diagrams);
        Check.due("8 inputs of the last one", 0, () -> x.inputs(59));
    }

    private static void kindAt() {
        Stringdrawer x = new Stringdrawer();
        int d = Draw.of(x, "c;(0|6);m;s;(n|1)");
        String kinds = "c06msn1";
        for (int box = 0; box < kinds.length(); box++) {
            int number = box;
            Check.due("11 kindAt " + box, kinds.charAt(box), () -> x.kindAt(d, number));
        }
        for (int box : new int[] {-1, 7, 8, 24, Integer.MIN_VALUE, Integer.MAX_VALUE}) {
            Check.due("11 kindAt " + box, INDEX, () -> x.kindAt(d, box));
        }
        for (int number : OUTSIDE) {
            Check.due("11 kindAt of " + number, INDEX, () -> x.kindAt(number, 0));
        }
        int wires = x.wires(1);
        Check.due("11 kindAt of wires", INDEX, () -> x.kindAt(wires, 0));
    }

    private static void source() {
        Stringdrawer x = new Stringdrawer();
        int d = Draw.of(x, "(w|c|w);(a|m)");
        Check.due("12 first of a", -1, () -> x.source(d, 1, 0));
        Check.due("12 second of a", 0, () -> x.source(d, 1, 1));
        Check.due("12 first of m", 1, () -> x.source(d, 2, 0));
        Check.due("12 second of m", -3, () -> x.source(d, 2, 1));
        Check.due("12 c", -2, () -> x.source(d, 0, 0));
        Check.due("12 first output", 2, () -> x.source(d, -1, 0));
        Check.due("12 second output", 4, () -> x.source(d, -1, 1));
        int[] places = {-1, 2, Integer.MIN_VALUE, Integer.MAX_VALUE};
        for (int place : places) {
            Check.due("12 a " + place, NO_ELEMENT, () -> x.source(d, 1, place));
            Check.due("12 output " + place, NO_ELEMENT, () -> x.source(d, -1, place));
        }
        Check.due("12 c 1", NO_ELEMENT, () -> x.source(d, 0, 1));
        int z = x.box('z');
        Check.due("12 z 0", NO_ELEMENT, () -> x.source(z, 0, 0));
        int n = x.box('n');
        Check.due("12 no output", NO_ELEMENT, () -> x.source(n, -1, 0));
        Check.due("12 n", -1, () -> x.source(n, 0, 0));
        for (int box : new int[] {-2, 3, Integer.MIN_VALUE, Integer.MAX_VALUE}) {
            Check.due("12 box " + box, INDEX, () -> x.source(d, box, 0));
            Check.due("12 box " + box + " place 9", INDEX, () -> x.source(d, box, 9));
        }
        for (int number : OUTSIDE) {
            Check.due("12 diagram " + number, INDEX, () -> x.source(number, 0, 9));
        }
        Check.due("12 sixth output", -6, () -> x.source(x.wires(6), -1, 5));
    }

    private static void depth() {
        String[] due = {"w 0", "e 0", "c 1", "z 1", "d|z 1", "z;d 2", "2;3;4 3", "2|(3;4) 2",
            "c;((2;3;4)|w);a 5", "c;(w|(2;3;4));a 5", "(d;z);2 2", "x;(2|w);x;(2|w) 1",
            "x;(2|w);(3|w) 2"};
        for (String line : due) {
            int split = line.lastIndexOf(' ');
            int depth = Integer.parseInt(line.substring(split + 1));
            Stringdrawer x = new Stringdrawer();
            int d = Draw.of(x, line.substring(0, split));
            Check.due("13 depth " + line, depth, () -> x.depth(d));
            int other = Draw.of(x, "c;(2|(3;4));a");
            Check.due("13 depth of another one", 4, () -> x.depth(other));
            Check.due("13 depth again " + line, depth, () -> x.depth(d));
            for (int number : OUTSIDE) {
                Check.due("13 depth " + number, INDEX, () -> x.depth(number));
            }
        }
    }

    private static void alike(boolean due, String first, String second) {
        Stringdrawer x = new Stringdrawer();
        int one = Draw.of(x, first);
        int other = Draw.of(x, second);
        Check.due("14 " + first + " and " + second, due, () -> x.areAlike(one, other));
        Check.due("14 " + second + " and " + first, due, () -> x.areAlike(other, one));
        Check.due("14 " + first + " and itself", true, () -> x.areAlike(one, one));
    }

    private static void alike() {
        alike(true, "(2|w);(w|3)", "(w|3);(2|w)");
        alike(true, "2|3", "x;(3|2);x");
        alike(false, "2|3", "3|2");
        alike(false, "2;3", "3;2");
        alike(false, "a", "x;a");
        alike(false, "c", "c;x");
        alike(false, "w|w", "x");
        alike(true, "x;x", "w|w");
        alike(true, "e", "e");
        alike(false, "e", "w");
        alike(false, "e", "z;d");
        alike(false, "w", "w|w");
        alike(false, "z", "d");
        alike(false, "d|z", "z");
        alike(true, "d|z", "z|d");
        alike(true, "d|z", "d;z");
        alike(false, "2", "2;2");
        alike(false, "w|w|w|w|w|w", "w|w|w|w|x");
        alike(true, "(w|w|w|w|x);(w|w|w|w|x)", "w|w|w|w|w|w");
        alike(false, "d|w", "w|d");
        alike(false, "z|w", "w|z");
        alike(false, "c", "s");
        alike(false, "z", "u");
        alike(false, "2", "3");
        alike(false, "w", "1");
        alike(false, "w", "2");
        alike(false, "c", "m");
        alike(false, "d", "n");
        alike(false, "c;(2|w);a", "c;(w|2);a");
        alike(true, "c;(2|w);a", "c;((w;2)|w);a");
        alike(false, "c;(2|3);a", "c;(3|2);x;a");
        alike(true, "c;(2|3);a", "c;(w|3);(2|w);a");
        alike(false, "c;(c|w);(a|w);a", "c;(w|c);(w|a);a");
        alike(false, "c;(c|w)", "c;(w|c)");
        Stringdrawer x = new Stringdrawer();
        int c = x.box('c');
        for (int number : OUTSIDE) {
            Check.due("14 areAlike " + number, INDEX, () -> x.areAlike(number, c));
            Check.due("14 areAlike c " + number, INDEX, () -> x.areAlike(c, number));
        }
        Check.due("14 areAlike at the end", INDEX, () -> x.areAlike(c, x.diagrams()));
    }

    /** Parts without inputs and outputs hang at no edge, and may come in any order. */
    private static void alikeParts() {
        alike(true, "(z;d)|(u;n)", "(u;n)|(z;d)");
        alike(false, "(z;d)|(u;n)", "(z;n)|(u;d)");
        alike(true, "(z;d)|(z;d)|w", "w|(z;d)|(z;d)");
        alike(false, "(z;d)|(z;d)|(z;n)", "(z;d)|(z;n)|(z;n)");
        alike(true, "(z;2;d)|(z;3;d)|(z;2;d)", "(z;2;d)|(z;2;d)|(z;3;d)");
        alike(false, "z;c;(d|n)", "z;c;(n|d)");
        alike(true, "(z;c;(d|n))|(z;c;(n|d))", "(z;c;(n|d))|(z;c;(d|n))");
        alike(false, "(z;c;(d|n))|(z;c;(d|n))", "(z;c;(n|d))|(z;c;(d|n))");
        alike(false, "(z;2;2;d)|(z;d)", "(z;2;d)|(z;2;d)");
        alike(false, "(z|u);a;n", "(u|z);a;n");
        alike(true, "(d;z)|(z;d)", "(z;d)|(d;z)");
        alike(false, "d;z", "w");
        alike(false, "(z;d)|w", "d;z");
        String crossed = "(w|x|w);(w|w|x);(w|x|w);(a|a)";
        alike(false, "(u|z);(c|c);" + crossed + ";(d|n)", "((u;c;a;d)|(z;c;a;n))");
        alike(false, "(u|u);(c|c);" + crossed + ";(d|d)", "((u;c;a;d)|(u;c;a;d))");
        alike(true, "(u|u);(c|c);" + crossed + ";(d|d)", "(u|u);x;(c|c);" + crossed + ";(d|d)");
    }

    /** Each box of one is put to just one box of the other one, also where all wires agree. */
    private static void alikeDoubled() {
        String swapped = "(w|w|x);(w|x|w);(w|w|x)";
        String two = "(c;a)|(c;a)";
        alike(false, "(c|c);" + swapped + ";(a|a)", two);
        alike(false, "(u|u);(c|c);" + swapped + ";(a|a);(d|d)", "(u|u);(" + two + ");(d|d)");
        alike(true, "(u|u);(c|c);(x|x);" + swapped + ";(a|a);(d|d)",
                "(u|u);(c|c);" + swapped + ";(x|x);(a|a);(d|d)");
    }

    /** All ways to lay a box and a wire: alike only if each wire leads from and to the same. */
    private static void alikeWires() {
        String[] starts = {"w|w", "x"};
        String[] boxes = {"c|w", "w|c", "s|w", "w|s"};
        String[] ends = {"w|w|w", "x|w", "w|x", "(x|w);(w|x)", "(w|x);(x|w)",
            "(x|w);(w|x);(x|w)"};
        List<String> laid = new ArrayList<>();
        for (String box : boxes) {
            for (String start : starts) {
                for (String end : ends) {
                    laid.add("(" + start + ");(" + box + ");(" + end + ")");
                }
            }
        }
        for (String one : laid) {
            for (String other : laid) {
                Stringdrawer x = new Stringdrawer();
                int first = Draw.of(x, one);
                int second = Draw.of(x, other);
                Check.due("14 " + one + " and " + other,
                        Draw.told(x, first).equals(Draw.told(x, second)),
                        () -> x.areAlike(first, second));
            }
        }
    }

    /** Many parts fail to be put to one that differs in its last box alone. */
    private static void alikeManyParts() {
        String part = "(z;1;d)|(z;1;d)|(z;1;d)|(z;1;d)|(z;1;d)|(z;1;d)";
        alike(true, part + "|(z;1;n)|(z;2;n)", "(z;2;n)|(z;1;n)|" + part);
        alike(false, part + "|(z;1;n)|(z;2;n)", "(z;1;n)|(z;1;n)|" + part);
        alike(false, part + "|(z;1;n)|(z;2;n)", part + "|(z;1;n)|(z;2;d)");
        alike(true, part + "|(z;1;n)|(z;1;n)", "(z;1;n)|" + part + "|(z;1;n)");
        alike(false, part + "|(z;2;n)|(z;3;d)", "(z;2;d)|(z;3;n)|" + part);
        alike(true, part + "|(z;2;n)|(z;3;d)", "(z;3;d)|(z;2;n)|" + part);
        String four = "(z;c;(d|n))|(z;c;(d|n))|(z;c;(d|n))|(z;c;(d|n))|(z;c;(d|n))";
        alike(true, four + "|(z;c;(n|d))", "(z;c;(n|d))|" + four);
        alike(false, four + "|(z;c;(n|d))", "(z;c;(n|n))|" + four);
        alike(false, four + "|(z;c;(n|d))", "(z;c;(d|n))|" + four);
    }

    /** Rewriting puts boxes behind those to which they lead. */
    private static void alikeBackwards() {
        Stringdrawer x = new Stringdrawer();
        int two = x.box('2');
        int zero = x.box('z');
        int any = x.box('u');
        int toThree = x.rule(two, x.box('3'));
        int toZero = x.rule(any, zero);
        int chain = Draw.of(x, "2;4;5");
        int back = x.rewrite(chain, toThree, 0);
        int straight = Draw.of(x, "3;4;5");
        Check.due("29 backwards", "1>1 44 50 3-1 .2", () -> Draw.told(x, back));
        Check.due("13 backwards", 3, () -> x.depth(back));
        Check.due("14 backwards", true, () -> x.areAlike(back, straight));
        Check.due("14 forwards", true, () -> x.areAlike(straight, back));
        int closed = x.rewrite(Draw.of(x, "(u|u);a;c;(d|n)"), toZero, 0);
        Check.due("29 backwards, closed", "0>0 u a10,0 c2 d4 n5 z .",
                () -> Draw.told(x, closed));
        Check.due("13 backwards, closed", 4, () -> x.depth(closed));
        Check.due("14 closed", true, () -> x.areAlike(closed, Draw.of(x, "(z|u);a;c;(d|n)")));
        Check.due("14 closed, not alike", false,
                () -> x.areAlike(closed, Draw.of(x, "(u|z);a;c;(d|n)")));
        Check.due("41 isSound", true, x::isSound);
    }

    /** Parts whose first box is not the one from which all ways lead. */
    private static void alikeFromTheEnd() {
        Stringdrawer x = new Stringdrawer();
        int zero = x.box('z');
        int any = x.box('u');
        int zeros = x.rule(zero, zero);
        int anys = x.rule(any, any);
        int one = x.rewrite(Draw.of(x, "(z;2;d)|(u;2;d)"), zeros, 0);
        int first = x.rewrite(one, anys, 0);
        int other = x.rewrite(Draw.of(x, "(u;2;d)|(z;2;d)"), zeros, 0);
        int second = x.rewrite(other, anys, 0);
        Check.due("29 from the end", "0>0 28 d0 210 d4 z u .", () -> Draw.told(x, first));
        Check.due("29 from the end", "0>0 210 d0 28 d4 z u .", () -> Draw.told(x, second));
        Check.due("14 from the end", true, () -> x.areAlike(first, second));
        Check.due("14 from the end", true, () -> x.areAlike(second, first));
    }
}
