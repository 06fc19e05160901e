/** Promises 24 to 29, 37 and 39: rules, their matches, and rewriting. */
public final class RulesTest {
    private static final String INDEX = "throws.IndexOutOfBoundsException";
    private static final String STATE = "throws.IllegalStateException";
    private static final String UNSUPPORTED = "throws.UnsupportedOperationException";
    private static final String NO_ELEMENT = "throws.NoSuchElementException";
    private static final int[] OUTSIDE = {-1, Integer.MIN_VALUE, Integer.MAX_VALUE, 60, 1000};

    public static void main(String[] args) {
        rule();
        ruleLimits();
        isTrue();
        trueShare();
        matches();
        matchLimits();
        image();
        imageOfTwins();
        imageLimits();
        rewrite();
        rewriteStraight();
        rewriteLimits();
        sixParts();
        backwards();
        brokenBackwards();
        doubled();
        Check.end();
    }

    private static int rule(Stringdrawer x, String left, String right) {
        int taken = Draw.of(x, left);
        int given = Draw.of(x, right);
        return x.rule(taken, given);
    }

    private static void rule() {
        Stringdrawer x = new Stringdrawer();
        int two = x.box('2');
        int wire = x.wires(1);
        int c = x.box('c');
        int closed = Draw.of(x, "z;d");
        int none = x.wires(0);
        int straight = Draw.of(x, "2|w");
        int straightToo = Draw.of(x, "w|2");
        int crossed = Draw.of(x, "(w|2);x");
        int wires = x.wires(2);
        int before = x.diagrams();
        Check.due("24 box to wire", 0, () -> x.rule(two, wire));
        Check.due("24 closed to nothing", 1, () -> x.rule(closed, none));
        Check.due("24 to itself", 2, () -> x.rule(c, c));
        Check.due("24 no boxes", UNSUPPORTED, () -> x.rule(wire, two));
        Check.due("24 nothing", UNSUPPORTED, () -> x.rule(none, none));
        Check.due("24 a straight wire", UNSUPPORTED, () -> x.rule(straight, wires));
        Check.due("24 a straight wire", UNSUPPORTED, () -> x.rule(straightToo, wires));
        Check.due("24 a straight wire that crosses", UNSUPPORTED, () -> x.rule(crossed, wires));
        Check.due("24 not as many", UNSUPPORTED, () -> x.rule(c, wire));
        Check.due("24 not as many inputs", UNSUPPORTED, () -> x.rule(c, wires));
        Check.due("24 not as many outputs", UNSUPPORTED, () -> x.rule(x.box('d'), two));
        int more = Draw.of(x, "2|2");
        Check.due("24 straight wires right", 3, () -> x.rule(more, straight));
        Check.due("24 the same again", 4, () -> x.rule(two, wire));
        for (int number : OUTSIDE) {
            Check.due("24 rule " + number, INDEX, () -> x.rule(number, two));
            Check.due("24 rule two " + number, INDEX, () -> x.rule(two, number));
        }
        Check.due("37 rules", 5, x::rules);
        Check.due("24 rules make no diagrams", before + 3, x::diagrams);
    }

    private static void ruleLimits() {
        Stringdrawer x = new Stringdrawer();
        int two = x.box('2');
        int wire = x.wires(1);
        for (int number = 0; number < 20; number++) {
            Check.due("37 rules", number, x::rules);
            Check.due("24 rule", number, () -> x.rule(two, two));
        }
        Check.due("24 a 21st", STATE, () -> x.rule(two, wire));
        Check.due("24 a wrong 21st", UNSUPPORTED, () -> x.rule(wire, two));
        Check.due("24 none", INDEX, () -> x.rule(two, 2));
        Check.due("37 all rules", 20, x::rules);
        Check.due("25 last", true, () -> x.isTrue(19));
        Check.due("25 none", INDEX, () -> x.isTrue(20));
    }

    private static void isTrue() {
        String[] due = {"c;a:2:1", "2:3:0", "c:c;x:1", "a:x;a:1", "d:n:0", "z;d:e:1", "m;c:s:0",
            "m;c:w|w:0", "c;m:w:1", "u:z:0", "z:u:0", "2;3:6:1", "c;(2|3);m:n;z:1"};
        for (String line : due) {
            Stringdrawer x = new Stringdrawer();
            String[] parts = line.split(":");
            Object answer = Check.answer(() -> rule(x, parts[0], parts[1]));
            if (answer.equals(0)) {
                Check.due("25 " + line, parts[2].equals("1"), () -> x.isTrue(0));
                Check.due("25 after the last", INDEX, () -> x.isTrue(1));
            } else {
                Check.due("24 " + line, UNSUPPORTED, () -> rule(x, parts[0], parts[1]));
            }
            for (int number : OUTSIDE) {
                Check.due("25 isTrue " + number, INDEX, () -> x.isTrue(number));
            }
        }
    }

    private static void trueShare() {
        Stringdrawer x = new Stringdrawer();
        x.box('2');
        Check.due("39 no rules", "throws.ArithmeticException", x::trueShare);
        rule(x, "2", "3");
        Check.due("39 none of one", 0.0f, x::trueShare);
        rule(x, "2;3", "6");
        Check.due("39 one of two", 0.5f, x::trueShare);
        rule(x, "2;5", "4");
        Check.due("39 one of three", 1.0f / 3.0f, x::trueShare);
        Check.due("24 failing", UNSUPPORTED, () -> x.rule(0, x.wires(0)));
        rule(x, "d", "2;d");
        Check.due("39 two of four", 0.5f, x::trueShare);
        rule(x, "1", "w");
        Check.due("39 three of five", 3.0f / 5.0f, x::trueShare);
        Stringdrawer y = new Stringdrawer();
        rule(y, "2;3", "6");
        Check.due("39 one of one", 1.0f, y::trueShare);
        rule(y, "2", "3");
        rule(y, "3", "2");
        Check.due("39 the first of three", 1.0f / 3.0f, y::trueShare);
        Check.due("39 as before", 1.0f / 3.0f, y::trueShare);
    }

    private static void matches(String left, String diagram, int matches, int broken) {
        Stringdrawer x = new Stringdrawer();
        int taken = Draw.of(x, left);
        int rule = x.rule(taken, taken);
        int d = Draw.of(x, diagram);
        Check.due("26 " + left + " in " + diagram, matches, () -> x.matches(d, rule));
        Check.due("27 " + left + " in " + diagram, broken, () -> x.broken(d, rule));
        Check.due("28 last image of " + left + " in " + diagram,
                matches > 0 ? "Integer" : NO_ELEMENT, () -> x.image(d, rule,
                        Math.max(0, matches - 1), 0) >= 0 ? "Integer" : "?");
        Check.due("28 image behind of " + left + " in " + diagram, NO_ELEMENT,
                () -> x.image(d, rule, matches, 0));
    }

    private static void matches() {
        matches("2", "w", 0, 0);
        matches("2", "3", 0, 0);
        matches("2", "2;2;2", 3, 0);
        matches("2;3", "2;3;2;3", 2, 0);
        matches("2;3", "3;2", 0, 0);
        matches("2;3", "2|3", 0, 0);
        matches("2|3", "2;3", 0, 1);
        matches("2|3", "3;2", 0, 1);
        matches("2|3", "2;4;3", 0, 1);
        matches("2|3", "2|3", 1, 0);
        matches("2|2", "2|2", 2, 0);
        matches("2|2", "2;2;2", 0, 6);
        matches("2|2", "(2;2)|2", 4, 2);
        matches("2|2|2", "2|2|2|2", 24, 0);
        matches("c;(2|w)", "c;(2|w)", 1, 0);
        matches("c;(2|w)", "c;(w|2)", 0, 0);
        matches("c;(2|2)", "c;(2|2)", 1, 0);
        matches("c;(2|3)", "c;(3|2);x", 0, 0);
        matches("(2|w);a", "(w|2);a", 0, 0);
        matches("(2|w);a", "(2|2);a", 1, 0);
        matches("c", "c;(2|w);a", 1, 0);
        matches("c;x;a", "c;x;a", 1, 0);
        matches("c;a", "c;x;a", 0, 0);
        matches("c;(2|w)", "c;(2|w);a", 1, 0);
        matches("c;(2|w);a", "c;(2|w);a", 1, 0);
        matches("c|a", "c;(2|3);a", 0, 1);
        matches("(c|w);(w|a)", "c;(w|2);a", 0, 0);
        matches("(c|w);(w|a)", "c;(2|w);x;a", 0, 1);
        matches("(c|w);(w|a)", "(c|2);(2|a)", 1, 0);
        matches("(c|w);(w|a)", "c", 0, 0);
        matches("z;d", "(z;d)|(z;d)|(z;n)", 2, 0);
        matches("(z;d)|(z;d)", "(z;d)|(z;d)|(z;d)", 6, 0);
        matches("d|z", "(z;d)|(z;d)", 2, 2);
        matches("d|z", "d;z", 1, 0);
        matches("d|z", "z;d", 0, 1);
        matches("d|u|z|n", "(u;d)|(z;n)", 0, 1);
        matches("d|n", "(u;d)|(z;n)", 1, 0);
        matches("(2|3);(4|5)", "(2|3|2|3);(4|5|4|5)", 4, 0);
        matches("2|3", "2;c;(w|3)", 0, 1);
        matches("2|3", "2;c;(3|w)", 0, 1);
        matches("2|3", "2;s;(d|(c;(d|3)))", 0, 1);
        matches("2|3", "2;c;(d|w);4;(z|w);a;3", 0, 1);
        matches("c|3", "c;(w|3)", 0, 1);
        matches("c|3", "c;(3|w)", 0, 1);
        matches("c|3", "c;(d|(4;3))", 0, 1);
        matches("(c;(w|2))|3", "c;(w|(2;3))", 0, 1);
        matches("(c;(w|2))|3", "c;((4;3)|2)", 0, 1);
        matches("(c;(2|w))|3", "c;(2|(4;3))", 0, 1);
    }

    /**
     * Rewriting puts boxes behind those to which they lead, so that a way leads to the box 0. Each
     * box that is named is taken out and put in again, behind the other ones.
     */
    private static void broken(String renewed, String diagram, String told, String left, int due) {
        Stringdrawer x = new Stringdrawer();
        int made = Draw.of(x, diagram);
        for (char kind : renewed.toCharArray()) {
            int box = x.box(kind);
            made = x.rewrite(made, x.rule(box, box), 0);
        }
        int d = made;
        int taken = Draw.of(x, left);
        int rule = x.rule(taken, taken);
        Check.due("29 " + renewed + " in " + diagram, told, () -> Draw.told(x, d));
        Check.due("26 " + left + " in " + told, 0, () -> x.matches(d, rule));
        Check.due("27 " + left + " in " + told, due, () -> x.broken(d, rule));
        Check.due("28 " + left + " in " + told, NO_ELEMENT, () -> x.image(d, rule, 0, 0));
    }

    private static void brokenBackwards() {
        broken("2", "2;3", "1>1 32 2-1 .0", "2|3", 1);
        broken("2", "2;(3|z);a;5;3", "1>1 310 z a0,2 54 36 2-1 .8", "2|3", 2);
        broken("2", "(2;5;3)|4", "2>2 56 30 4-2 2-1 .2,4", "2|3|4", 1);
        broken("52", "2;5;3", "1>1 32 54 2-1 .0", "2|3", 1);
        broken("32", "2;5;3", "1>1 54 30 2-1 .2", "2|3", 1);
        broken("2", "2;d", "1>0 d2 2-1 .", "2|d", 1);
        broken("c", "c;(2|d)", "1>1 24 d5 c-1 .0", "c|2", 1);
        broken("c", "c;(d|2)", "1>1 d4 25 c-1 .2", "c|2", 1);
        broken("c", "c;(d|2)", "1>1 d4 25 c-1 .2", "c|d", 1);
        broken("3", "2;3;4", "1>1 2-1 44 30 .2", "2|4", 1);
    }

    private static void matchLimits() {
        Stringdrawer x = new Stringdrawer();
        int pairs = Draw.of(x, "z;d");
        int many = pairs;
        for (int more = 0; more < 11; more++) {
            many = x.beside(many, pairs);
        }
        int twelve = many;
        int all = x.rule(twelve, twelve);
        Check.due("26 twelve pairs", 479001600, () -> x.matches(twelve, all));
        Check.due("27 twelve pairs", 0, () -> x.broken(twelve, all));
        Check.due("28 last of twelve pairs", 22, () -> x.image(twelve, all, 479001599, 0));
        Check.due("28 last of twelve pairs", 1, () -> x.image(twelve, all, 479001599, 23));
        Check.due("28 middle of twelve pairs", 12, () -> x.image(twelve, all, 239500800, 0));
        Check.due("28 behind twelve pairs", NO_ELEMENT, () -> x.image(twelve, all, 479001600, 0));
        int two = x.box('2');
        Check.due("26 at the end", INDEX, () -> x.matches(two, 1));
        for (int number : OUTSIDE) {
            Check.due("26 matches " + number, INDEX, () -> x.matches(number, 0));
            Check.due("26 matches of " + number, INDEX, () -> x.matches(0, number));
            Check.due("27 broken " + number, INDEX, () -> x.broken(number, 0));
            Check.due("27 broken of " + number, INDEX, () -> x.broken(0, number));
        }
    }

    private static void images(String left, String diagram, String... due) {
        Stringdrawer x = new Stringdrawer();
        int taken = Draw.of(x, left);
        int rule = x.rule(taken, taken);
        int d = Draw.of(x, diagram);
        for (int match = 0; match < due.length; match++) {
            int asked = match;
            String[] boxes = due[match].split(",");
            for (int box = 0; box < boxes.length; box++) {
                int of = box;
                Check.due("28 " + left + " in " + diagram + " " + match + " " + box,
                        Integer.parseInt(boxes[box]), () -> x.image(d, rule, asked, of));
            }
        }
        Check.due("28 number behind", NO_ELEMENT, () -> x.image(d, rule, due.length, 0));
        Check.due("28 number -1", NO_ELEMENT, () -> x.image(d, rule, -1, 0));
    }

    private static void image() {
        images("2", "2;3;2", "0", "2");
        images("2;3", "2;3;2;3", "0,1", "2,3");
        images("x;(3|2)", "2|3", "1,0");
        images("2|2", "2|2", "0,1", "1,0");
        images("2|2", "(2;2)|2", "0,2", "1,2", "2,0", "2,1");
        images("(2|3);(4|5)", "(2|3|2|3);(4|5|4|5)", "0,1,4,5", "0,3,4,7", "2,1,6,5", "2,3,6,7");
        images("d|z", "(z;d)|(z;d)", "1,2", "3,0");
        images("(w|2);a", "(2|2);a;c;(2|2);a", "1,2", "5,6");
        images("(z;d)|(z;d)", "(z;d)|(z;d)|(z;d)", "0,1,2,3", "0,1,4,5", "2,3,0,1", "2,3,4,5",
                "4,5,0,1", "4,5,2,3");
    }

    private static void imageOfTwins() {
        images("2|3|2", "2|3|2", "0,1,2", "2,1,0");
        images("3|2|2", "(2|3|2);(3|2|w)", "1,0,2", "1,2,0", "3,2,4", "3,4,2");
        images("2|(z;d)|2|(z;d)", "(z;d)|2|(z;d)|2", "2,0,1,5,3,4", "2,3,4,5,0,1",
                "5,0,1,2,3,4", "5,3,4,2,0,1");
    }

    private static void imageLimits() {
        Stringdrawer x = new Stringdrawer();
        int rule = rule(x, "2;3", "6");
        int d = Draw.of(x, "2;3");
        int none = Draw.of(x, "w");
        for (int box : new int[] {-1, 2, 24, Integer.MIN_VALUE, Integer.MAX_VALUE}) {
            Check.due("28 box " + box, INDEX, () -> x.image(d, rule, 0, box));
            Check.due("28 box " + box + " of no match", INDEX, () -> x.image(none, rule, 0, box));
        }
        for (int match : new int[] {-1, 1, Integer.MIN_VALUE, Integer.MAX_VALUE}) {
            Check.due("28 match " + match, NO_ELEMENT, () -> x.image(d, rule, match, 0));
            Check.due("29 match " + match, NO_ELEMENT, () -> x.rewrite(d, rule, match));
        }
        Check.due("28 no match", NO_ELEMENT, () -> x.image(none, rule, 0, 0));
        for (int number : OUTSIDE) {
            Check.due("28 image " + number, INDEX, () -> x.image(number, rule, 9, 0));
            Check.due("28 image of " + number, INDEX, () -> x.image(d, number, 9, 0));
            Check.due("29 rewrite " + number, INDEX, () -> x.rewrite(number, rule, 9));
            Check.due("29 rewrite by " + number, INDEX, () -> x.rewrite(d, number, 9));
        }
    }

    private static void rewrite(String rules, String diagram, int match, String due) {
        Stringdrawer x = new Stringdrawer();
        String[] sides = rules.split(":");
        int rule = rule(x, sides[0], sides[1]);
        int d = Draw.of(x, diagram);
        String before = Draw.told(x, d);
        int number = x.diagrams();
        Check.due("29 number", number, () -> x.rewrite(d, rule, match));
        Check.due("29 " + rules + " in " + diagram, due, () -> Draw.told(x, number));
        Check.due("29 the other one stays", before, () -> Draw.told(x, d));
        Check.due("29 depth", Draw.depth(x, number), () -> x.depth(number));
        Check.due("29 no film", 0, x::steps);
    }

    private static void rewrite() {
        rewrite("2;3:6", "4;2;3;5", 0, "1>1 4-1 54 60 .2");
        rewrite("6:2;3", "4;6;5", 0, "1>1 4-1 56 20 34 .2");
        rewrite("2:3", "2;2", 0, "1>1 22 3-1 .0");
        rewrite("2:3", "2;2", 1, "1>1 2-1 30 .2");
        rewrite("a:x;a", "(2|3);a;4", 0, "2>1 2-1 3-2 46 a2,0 .4");
        rewrite("c:c;x", "c;(2|3);a", 0, "1>1 27 36 a0,2 c-1 .4");
        rewrite("z;d:e", "2|(z;d)", 0, "1>1 2-1 .0");
        rewrite("z;d:u;n", "2|(z;d)", 0, "1>1 2-1 u n2 .0");
        rewrite("d|z:2", "d;z", 0, "1>1 2-1 .0");
        rewrite("d|z:2", "(3;d)|(z;4)", 0, "1>1 3-1 44 20 .2");
        rewrite("(2|3);a:a;5", "c;(2|3);a;6", 0, "1>1 c-1 66 a0,1 54 .2");
    }

    /** Wires of the right diagram that lead straight through join what was ahead and behind. */
    private static void rewriteStraight() {
        rewrite("1:w", "2;1;3", 0, "1>1 2-1 30 .2");
        rewrite("1:w", "1", 0, "1>1 .-1");
        rewrite("1|1:x", "1|1", 0, "2>2 .-2,-1");
        rewrite("1|1:x", "1|1", 1, "2>2 .-2,-1");
        rewrite("1|1:x", "(2|3);(1|1);(4|5)", 0, "2>2 2-1 3-2 42 50 .4,6");
        rewrite("c;(d|w):w", "2;c;(d|3)", 0, "1>1 2-1 30 .2");
        rewrite("c;m:w", "c;m", 0, "1>1 .-1");
        rewrite("(1|1);m:m", "(1|w);(w|1);m", 0, "2>1 m-1,-2 .0");
        rewrite("2|1:(x;(3|w))", "(2|1);x", 0, "2>2 3-2 .-1,0");
    }

    private static void rewriteLimits() {
        Stringdrawer x = new Stringdrawer();
        int grow = rule(x, "2", "3;4");
        int keep = rule(x, "2", "5");
        int twelve = Draw.of(x, "2;2;2;2;2;2;2;2;2;2;2;2");
        int most = x.then(twelve, twelve);
        int short1 = x.then(twelve, Draw.of(x, "2;2;2;2;2;2;2;2;2;2;2"));
        Check.due("29 24 boxes", 24, () -> x.boxes(most));
        Check.due("29 23 boxes", 23, () -> x.boxes(short1));
        Check.due("29 to 25", UNSUPPORTED, () -> x.rewrite(most, grow, 0));
        Check.due("29 to 25, last", UNSUPPORTED, () -> x.rewrite(most, grow, 23));
        Check.due("29 no match", NO_ELEMENT, () -> x.rewrite(most, grow, 24));
        int before = x.diagrams();
        Check.due("29 23 to 24", before, () -> x.rewrite(short1, grow, 22));
        Check.due("29 24 boxes", 24, () -> x.boxes(before));
        Check.due("29 24 deep", 24, () -> x.depth(before));
        Check.due("29 24 to 24", before + 1, () -> x.rewrite(most, keep, 23));
        Draw.fill(x, 60);
        Check.due("29 full", STATE, () -> x.rewrite(most, keep, 0));
        Check.due("29 full, to 25", UNSUPPORTED, () -> x.rewrite(most, grow, 0));
        Check.due("29 full, no match", NO_ELEMENT, () -> x.rewrite(most, grow, 24));
        Check.due("29 full, none", INDEX, () -> x.rewrite(60, grow, 24));
        Check.due("29 nothing made", 60, x::diagrams);
    }

    /** Six parts, inputs and outputs, of which the last ones count as the first ones do. */
    private static void sixParts() {
        String six = "(z;d)|(z;d)|(z;d)|(z;d)|(z;d)|(z;d)";
        matches("d|d|d|d|d|z", six, 720, 3600);
        matches("z|d|d|d|d|d", six, 720, 3600);
        matches("2|2|2|2|2|2", "2|2|2|2|2|2", 720, 0);
        matches("2|3|4|5|6|1", "(2|3|4|5|6|w);(w|w|w|w|1|w)", 0, 1);
        images("2|3|4|5|6|1", "1|6|5|4|3|2", "5,4,3,2,1,0");
        rewrite("2|3|4|5|6|1:(1|2|3|4|5|6)", "2|3|4|5|6|1", 0,
                "6>6 1-1 2-2 3-3 4-4 5-5 6-6 .0,2,4,6,8,10");
        rewrite("2|3|4|5|6|1:(w|w|w|w|w|w)", "(2|3|4|5|6|1);(1|6|5|4|3|2)", 0,
                "6>6 1-1 6-2 5-3 4-4 3-5 2-6 .0,2,4,6,8,10");
    }

    /** A left diagram that came from rewriting has boxes ahead of those that lead to them. */
    private static void backwards() {
        Stringdrawer x = new Stringdrawer();
        int two = x.box('2');
        int toThree = x.rule(two, x.box('3'));
        int left = x.rewrite(Draw.of(x, "(2|w);a"), toThree, 0);
        Check.due("29 backwards", "2>1 a2,-2 3-1 .0", () -> Draw.told(x, left));
        int rule = x.rule(left, Draw.of(x, "x;(w|5);a"));
        int d = Draw.of(x, "(3|3);a;6;c;(3|w);a;4");
        Check.due("26 backwards", 2, () -> x.matches(d, rule));
        Check.due("28 backwards", 2, () -> x.image(d, rule, 0, 0));
        Check.due("28 backwards", 0, () -> x.image(d, rule, 0, 1));
        Check.due("28 backwards", 6, () -> x.image(d, rule, 1, 0));
        Check.due("28 backwards", 5, () -> x.image(d, rule, 1, 1));
        Check.due("27 backwards", 0, () -> x.broken(d, rule));
        int made = x.rewrite(d, rule, 1);
        Check.due("29 backwards", "2>1 3-1 3-2 a0,2 64 c6 414 58 a9,12 .10",
                () -> Draw.told(x, made));
        int leftToo = x.rewrite(Draw.of(x, "2;c"), toThree, 0);
        int forked = x.rule(leftToo, Draw.of(x, "c"));
        Check.due("29 backwards", "1>2 c2 3-1 .0,1", () -> Draw.told(x, leftToo));
        Check.due("26 backwards", 1, () -> x.matches(leftToo, forked));
        Check.due("26 backwards", 0, () -> x.matches(d, forked));
    }

    /** Different boxes need different images, also where all wires would agree. */
    private static void doubled() {
        String doubled = "(c|c);(w|x|w);(w|w|x);(w|x|w);(a|a)";
        matches(doubled, "c;a", 0, 0);
        matches(doubled, "(c;a)|(c;a)", 0, 0);
        matches(doubled, doubled, 2, 0);
        matches("(c;a)|(c;a)", doubled, 0, 0);
        matches("c;a", doubled, 0, 0);
    }
}
