/** Promises 15 to 23 and 40: matrices, the row, and what diagrams compute. */
public final class MeaningTest {
    private static final String INDEX = "throws.IndexOutOfBoundsException";
    private static final String ARGUMENT = "throws.IllegalArgumentException";
    private static final String STATE = "throws.IllegalStateException";
    private static final String UNSUPPORTED = "throws.UnsupportedOperationException";
    private static final String NO_ELEMENT = "throws.NoSuchElementException";
    private static final int[] OUTSIDE = {-1, Integer.MIN_VALUE, Integer.MAX_VALUE, 60, 1000};

    public static void main(String[] args) {
        matrices();
        largeMatrices();
        freeMatrices();
        matrixEdges();
        equal();
        apart();
        functions();
        row();
        value();
        valueLimits();
        holds();
        meanRank();
        Check.end();
    }

    private static String matrix(Stringdrawer x, int d) {
        StringBuilder text = new StringBuilder();
        for (int row = 0; row < x.rank(d); row++) {
            text.append(row > 0 ? "," : "");
            for (int column = 0; column < x.inputs(d) + x.outputs(d); column++) {
                text.append(x.entry(d, row, column));
            }
        }
        return text.toString();
    }

    private static void matrices() {
        String[] due = {"c 111", "d 1", "a 101,011", "z ", "m 111", "u 1", "s 101,016", "n ",
            "0 10", "1 11", "2 12", "3 13", "4 14", "5 15", "6 16", "w 11", "e ",
            "w|w 1010,0101", "x 1001,0110", "2;3 16", "2;4 11", "c;a 12", "c;m 11", "s;a 11",
            "s;m 14", "d;z 10", "d;u 10,01", "n;z ", "n;u 01", "z;d ", "u;n ", "u;d ",
            "m;c 1111", "a;c 1011,0111", "a;s 1001,0101,0016", "m;s 1101,0016",
            "(w|c);(m|w) 1111", "c;(w|6);a 10", "c;(w|6);m ", "z;c;(n|w) ", "(u|z);a 1", "u;0 ",
            "c;(2|3);m ", "c;(2|3);a 15", "(2|3);a 102,013", "(w|w|w);(w|a) 10010,01001,00101",
            "u|z|u 100,001", "n|d|n 010", "(u|w);a 10,01"};
        for (String line : due) {
            Stringdrawer x = new Stringdrawer();
            int split = line.lastIndexOf(' ');
            int d = Draw.of(x, line.substring(0, split));
            String wanted = line.substring(split + 1);
            int rank = wanted.isEmpty() ? 0 : wanted.split(",").length;
            Check.due("15 rank " + line, rank, () -> x.rank(d));
            Check.due("16 matrix " + line, wanted, () -> matrix(x, d));
            Check.due("41 isSound " + line, true, x::isSound);
        }
    }

    /** Nearly as many conditions as 24 boxes can tell, and most inputs and outputs. */
    private static void largeMatrices() {
        Stringdrawer x = new Stringdrawer();
        int one = Draw.of(x, "c;m");
        int three = x.then(x.then(one, one), one);
        int twelve = x.then(x.then(three, three), x.then(three, three));
        int wires = x.wires(5);
        int behind = x.beside(twelve, wires);
        int ahead = x.beside(wires, twelve);
        int other = x.beside(x.beside(wires, three), x.wires(0));
        for (int d : new int[] {behind, ahead, other}) {
            Check.due("16 large", "100000100000,010000010000,001000001000,000100000100,"
                    + "000010000010,000001000001", () -> matrix(x, d));
            Check.due("19 large", true, () -> x.isFunction(d));
        }
        Check.due("10 24 boxes", 24, () -> x.boxes(ahead));
        int sum = Draw.of(x, "(s|s|s);(2|3|4|5|6|1);(a|a|a)");
        int free = x.then(sum, sum);
        Check.due("10 24 boxes", 24, () -> x.boxes(free));
        Check.due("16 large", "100000,010000,001000,000100,000010,000001",
                () -> matrix(x, free));
        Check.due("41 large", true, x::isSound);
    }

    /** Twelve boxes that leave a value open, one behind the other, at most inputs and outputs. */
    private static void freeMatrices() {
        for (String wire : new String[] {"s;(d|w);s;(d|w)", "s;(w|d);s;(w|d)", "d;u;d;u",
            "s;(d|w);d;u"}) {
            Stringdrawer x = new Stringdrawer();
            int one = Draw.of(x, wire);
            int two = x.beside(one, one);
            int six = x.beside(two, x.beside(two, two));
            int turned = x.turn(six);
            Check.due("10 24 boxes", 24, () -> x.boxes(six));
            Check.due("15 free " + wire, 12, () -> x.rank(six));
            Check.due("15 turned " + wire, 12, () -> x.rank(turned));
            Check.due("41 free " + wire, true, x::isSound);
        }
    }

    private static void matrixEdges() {
        Stringdrawer x = new Stringdrawer();
        int a = x.box('a');
        int z = x.box('z');
        int e = x.wires(0);
        int[] wrong = {-1, Integer.MIN_VALUE, Integer.MAX_VALUE};
        for (int index : wrong) {
            Check.due("16 row " + index, NO_ELEMENT, () -> x.entry(a, index, 0));
            Check.due("16 column " + index, NO_ELEMENT, () -> x.entry(a, 0, index));
        }
        Check.due("16 row 2", NO_ELEMENT, () -> x.entry(a, 2, 0));
        Check.due("16 column 3", NO_ELEMENT, () -> x.entry(a, 0, 3));
        Check.due("16 last", 1, () -> x.entry(a, 1, 2));
        Check.due("16 no row", NO_ELEMENT, () -> x.entry(z, 0, 0));
        Check.due("16 nothing", NO_ELEMENT, () -> x.entry(e, 0, 0));
        for (int number : OUTSIDE) {
            Check.due("15 rank " + number, INDEX, () -> x.rank(number));
            Check.due("16 entry " + number, INDEX, () -> x.entry(number, 0, 0));
            Check.due("16 entry " + number + " -1", INDEX, () -> x.entry(number, -1, 99));
        }
        Check.due("15 rank at the end", INDEX, () -> x.rank(3));
        int most = Draw.of(x, "(u|u|u|u|u|u);(d|d|d|d|d|d);(u|u|u|u|u|u);(d|d|d|d|d|d)");
        Check.due("15 rank of many", 0, () -> x.rank(most));
        Stringdrawer y = new Stringdrawer();
        int free = Draw.of(y, "(d|d|d|d|d|d);(u|u|u|u|u|u)");
        Check.due("15 greatest rank", 12, () -> y.rank(free));
        Check.due("16 last of the greatest", 1, () -> y.entry(free, 11, 11));
        Check.due("16 row 12", NO_ELEMENT, () -> y.entry(free, 12, 11));
        Check.due("16 column 12", NO_ELEMENT, () -> y.entry(free, 11, 12));
    }

    private static void equal(boolean due, String first, String second) {
        Stringdrawer x = new Stringdrawer();
        int one = Draw.of(x, first);
        int other = Draw.of(x, second);
        Check.due("17 " + first + " and " + second, due, () -> x.areEqual(one, other));
        Check.due("17 " + second + " and " + first, due, () -> x.areEqual(other, one));
    }

    private static void equal() {
        equal(true, "c;a", "2");
        equal(true, "2;3", "6");
        equal(false, "2;3", "5");
        equal(true, "c;(d|w)", "w");
        equal(true, "c", "c;x");
        equal(true, "m;c", "(w|c);(m|w)");
        equal(false, "c", "m");
        equal(false, "w", "z;c");
        equal(false, "z|z", "n|n");
        equal(false, "z", "n");
        equal(false, "z", "u");
        equal(true, "z;c", "z|z");
        equal(true, "z;d", "e");
        equal(false, "d;u", "w");
        equal(true, "a;2", "(2|2);a");
        equal(true, "a;c", "(c|c);(w|x|w);(a|a)");
        equal(false, "0", "n;u");
        equal(false, "w", "n;u");
        equal(false, "w", "0");
        equal(false, "w|u", "(n;u)|u");
        equal(false, "s", "c");
        Stringdrawer x = new Stringdrawer();
        int c = x.box('c');
        for (int number : OUTSIDE) {
            Check.due("17 areEqual " + number, INDEX, () -> x.areEqual(number, c));
            Check.due("17 areEqual c " + number, INDEX, () -> x.areEqual(c, number));
        }
        Check.due("17 areEqual at the end", INDEX, () -> x.areEqual(c, 1));
    }

    private static void apart(String due, String first, String second) {
        Stringdrawer x = new Stringdrawer();
        int one = Draw.of(x, first);
        int other = Draw.of(x, second);
        for (int column = 0; column < due.length(); column++) {
            int asked = column;
            Check.due("18 " + first + " and " + second + " " + column, due.charAt(column) - '0',
                    () -> x.apart(one, other, asked));
        }
        for (int column : new int[] {-1, due.length(), Integer.MIN_VALUE, Integer.MAX_VALUE}) {
            Check.due("18 column " + column, NO_ELEMENT, () -> x.apart(one, other, column));
        }
    }

    private static void apart() {
        apart("12", "2", "3");
        apart("13", "3", "2");
        apart("1", "u", "z");
        apart("1", "z", "u");
        apart("10", "d;u", "w");
        apart("10", "w", "d;u");
        apart("01", "n;u", "w");
        apart("0101", "w|w", "w|0");
        apart("01", "n;u", "2");
        Stringdrawer x = new Stringdrawer();
        int c = x.box('c');
        int m = x.box('m');
        int w = x.box('2');
        int same = Draw.of(x, "c;a");
        for (int column = -1; column < 3; column++) {
            int asked = column;
            Check.due("18 the same meaning", NO_ELEMENT, () -> x.apart(w, same, asked));
            Check.due("18 itself", NO_ELEMENT, () -> x.apart(c, c, asked));
            Check.due("18 turned", UNSUPPORTED, () -> x.apart(c, m, asked));
            Check.due("18 not as many", UNSUPPORTED, () -> x.apart(c, w, asked));
            Check.due("18 not as many", UNSUPPORTED, () -> x.apart(w, m, asked));
        }
        for (int number : OUTSIDE) {
            Check.due("18 apart " + number, INDEX, () -> x.apart(number, c, 9));
            Check.due("18 apart c " + number, INDEX, () -> x.apart(c, number, 9));
        }
    }

    private static void functions() {
        String[] due = {"c 1", "d 1", "a 1", "z 1", "m 0", "u 0", "s 0", "n 0", "0 1", "3 1", "w 1",
            "e 1", "x 1", "d;z 1", "n;z 0", "d;u 0", "n;u 0", "s;a 1", "s;m 1", "c;m 1", "m;c 0",
            "a|m 0", "a|c 1", "u;n 1", "z;d 1", "u;d 1", "c;(2|3);m 0", "(w|u);m 1", "(w|u);a 0",
            "c;(w|n) 0", "s;(w|n) 1", "n|u 0", "z|z 1"};
        for (String line : due) {
            Stringdrawer x = new Stringdrawer();
            int split = line.lastIndexOf(' ');
            int d = Draw.of(x, line.substring(0, split));
            Check.due("19 isFunction " + line, line.charAt(split + 1) == '1',
                    () -> x.isFunction(d));
        }
        Stringdrawer x = new Stringdrawer();
        for (int number : OUTSIDE) {
            Check.due("19 isFunction " + number, INDEX, () -> x.isFunction(number));
        }
        Check.due("19 isFunction of nothing", INDEX, () -> x.isFunction(0));
    }

    private static void row() {
        Stringdrawer x = new Stringdrawer();
        for (int value : new int[] {-1, 7, Integer.MIN_VALUE, Integer.MAX_VALUE}) {
            Check.due("20 type " + value, ARGUMENT, () -> x.type(value));
        }
        Check.due("21 erase nothing", 0, x::erase);
        for (int many = 1; many <= 12; many++) {
            int value = many % 7;
            Check.due("20 type", many, () -> x.type(value));
        }
        Check.due("20 type a 13th", STATE, () -> x.type(0));
        Check.due("20 type a wrong 13th", ARGUMENT, () -> x.type(7));
        Check.due("21 erase all", 12, x::erase);
        Check.due("21 erase again", 0, x::erase);
        Check.due("20 type 6", 1, () -> x.type(6));
        Check.due("20 type 0", 2, () -> x.type(0));
        Check.due("21 erase", 2, x::erase);
    }

    private static void value() {
        Stringdrawer x = new Stringdrawer();
        int d = Draw.of(x, "(2|3);a;c;(w|5)");
        int z = x.box('z');
        int e = Draw.of(x, "e");
        Check.due("22 no input", 0, () -> x.value(z, 0));
        Check.due("22 no output", INDEX, () -> x.value(e, 0));
        x.type(4);
        Check.due("22 one value", UNSUPPORTED, () -> x.value(d, 0));
        x.type(6);
        Check.due("22 output 0", (2 * 4 + 3 * 6) % 7, () -> x.value(d, 0));
        Check.due("22 output 1", 5 * (2 * 4 + 3 * 6) % 7, () -> x.value(d, 1));
        Check.due("22 no input, two values", UNSUPPORTED, () -> x.value(z, 0));
        int cross = Draw.of(x, "x");
        Check.due("22 crossed 0", 6, () -> x.value(cross, 0));
        Check.due("22 crossed 1", 4, () -> x.value(cross, 1));
        x.type(0);
        Check.due("22 three values", UNSUPPORTED, () -> x.value(d, 0));
        Check.due("22 the row stays", 3, x::erase);
        x.type(6);
        int six = Draw.of(x, "6|(6;6)|3|4|5|2");
        for (int more = 0; more < 5; more++) {
            x.type(6);
        }
        int[] due = {1, 6, 4, 3, 2, 5};
        for (int output = 0; output < 6; output++) {
            int asked = output;
            Check.due("22 of six " + output, due[output], () -> x.value(six, asked));
        }
    }

    private static void valueLimits() {
        Stringdrawer x = new Stringdrawer();
        int a = x.box('a');
        int s = x.box('s');
        int n = x.box('n');
        int u = x.box('u');
        x.type(1);
        Check.due("22 no function", UNSUPPORTED, () -> x.value(s, 0));
        Check.due("22 no function, no output", INDEX, () -> x.value(s, 2));
        Check.due("22 n has no output", INDEX, () -> x.value(n, 0));
        Check.due("22 one value for a", UNSUPPORTED, () -> x.value(a, 0));
        for (int output : new int[] {-1, 1, Integer.MIN_VALUE, Integer.MAX_VALUE}) {
            Check.due("22 output " + output, INDEX, () -> x.value(a, output));
        }
        for (int number : OUTSIDE) {
            Check.due("22 value " + number, INDEX, () -> x.value(number, 0));
        }
        x.erase();
        Check.due("22 anything", UNSUPPORTED, () -> x.value(u, 0));
    }

    private static void holds() {
        Stringdrawer x = new Stringdrawer();
        int a = x.box('a');
        int e = x.wires(0);
        int free = Draw.of(x, "(d|d|d|d|d|d);(u|u|u|u|u|u)");
        Check.due("23 nothing", true, () -> x.holds(e));
        Check.due("23 a and nothing", UNSUPPORTED, () -> x.holds(a));
        x.type(3);
        x.type(5);
        Check.due("23 a and two", UNSUPPORTED, () -> x.holds(a));
        x.type(1);
        Check.due("23 3 + 5 is 1", true, () -> x.holds(a));
        Check.due("23 the row stays", 3, x::erase);
        x.type(3);
        x.type(5);
        x.type(2);
        Check.due("23 3 + 5 is not 2", false, () -> x.holds(a));
        Check.due("23 nothing and three", UNSUPPORTED, () -> x.holds(e));
        x.type(0);
        Check.due("23 a and four", UNSUPPORTED, () -> x.holds(a));
        for (int more = 0; more < 8; more++) {
            x.type(more % 7);
        }
        Check.due("23 twelve", true, () -> x.holds(free));
        Check.due("23 twelve at wires", false, () -> x.holds(x.wires(6)));
        for (int number : OUTSIDE) {
            Check.due("23 holds " + number, INDEX, () -> x.holds(number));
        }
        x.erase();
        int n = x.box('n');
        x.type(0);
        Check.due("23 n 0", true, () -> x.holds(n));
        x.erase();
        x.type(6);
        Check.due("23 n 6", false, () -> x.holds(n));
    }

    private static void meanRank() {
        Stringdrawer x = new Stringdrawer();
        Check.due("40 none", "throws.ArithmeticException", x::meanRank);
        x.box('z');
        Check.due("40 z", 0.0, x::meanRank);
        x.wires(6);
        Check.due("40 z, six wires", 3.0, x::meanRank);
        x.box('a');
        Check.due("40 z, six wires, a", 8.0 / 3.0, x::meanRank);
        x.box('u');
        Check.due("40 four", 9.0 / 4.0, x::meanRank);
        Check.answer(() -> x.then(2, 0));
        Check.due("40 nothing made", 9.0 / 4.0, x::meanRank);
        Stringdrawer y = new Stringdrawer();
        y.wires(5);
        Check.due("40 the first one", 5.0, y::meanRank);
        y.box('z');
        y.box('z');
        Check.due("40 the first of three", 5.0 / 3.0, y::meanRank);
    }
}
