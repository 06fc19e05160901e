import java.util.List;
import java.util.function.BiFunction;

/** Each call that takes the number of a diagram, once for each place at which one stands. */
final class Numbers {
    record Call(String what, BiFunction<Stringdrawer, Integer, Object> on) {
    }

    /** The other numbers are such that no exception is listed ahead of that for the diagram. */
    static final List<Call> OF_DIAGRAMS = List.of(
            new Call("5 then", (x, number) -> x.then(number, 0)),
            new Call("5 then 0 and", (x, number) -> x.then(0, number)),
            new Call("6 beside", (x, number) -> x.beside(number, 0)),
            new Call("6 beside 0 and", (x, number) -> x.beside(0, number)),
            new Call("7 turn", (x, number) -> x.turn(number)),
            new Call("8 inputs", (x, number) -> x.inputs(number)),
            new Call("9 outputs", (x, number) -> x.outputs(number)),
            new Call("10 boxes", (x, number) -> x.boxes(number)),
            new Call("11 kindAt", (x, number) -> x.kindAt(number, 0)),
            new Call("12 source", (x, number) -> x.source(number, 0, 0)),
            new Call("12 source of an output", (x, number) -> x.source(number, -1, 0)),
            new Call("12 source, no wire", (x, number) -> x.source(number, 0, 9)),
            new Call("13 depth", (x, number) -> x.depth(number)),
            new Call("14 areAlike", (x, number) -> x.areAlike(number, 0)),
            new Call("14 areAlike 0 and", (x, number) -> x.areAlike(0, number)),
            new Call("15 rank", (x, number) -> x.rank(number)),
            new Call("16 entry", (x, number) -> x.entry(number, 0, 0)),
            new Call("16 entry, no row", (x, number) -> x.entry(number, 9, 9)),
            new Call("17 areEqual", (x, number) -> x.areEqual(number, 0)),
            new Call("17 areEqual 0 and", (x, number) -> x.areEqual(0, number)),
            new Call("18 apart", (x, number) -> x.apart(number, 1, 0)),
            new Call("18 apart 1 and", (x, number) -> x.apart(1, number, 1)),
            new Call("18 apart, no column", (x, number) -> x.apart(0, number, 99)),
            new Call("19 isFunction", (x, number) -> x.isFunction(number)),
            new Call("22 value", (x, number) -> x.value(number, 0)),
            new Call("22 value, no output", (x, number) -> x.value(number, 9)),
            new Call("23 holds", (x, number) -> x.holds(number)),
            new Call("24 rule", (x, number) -> x.rule(number, 1)),
            new Call("24 rule 0 and", (x, number) -> x.rule(0, number)),
            new Call("26 matches", (x, number) -> x.matches(number, 0)),
            new Call("27 broken", (x, number) -> x.broken(number, 0)),
            new Call("28 image", (x, number) -> x.image(number, 0, 0, 0)),
            new Call("28 image, no match", (x, number) -> x.image(number, 0, 99, 0)),
            new Call("29 rewrite", (x, number) -> x.rewrite(number, 0, 0)),
            new Call("29 rewrite, no match", (x, number) -> x.rewrite(number, 0, 99)),
            new Call("30 simplify", (x, number) -> x.simplify(number, 1)),
            new Call("30 simplify 0 times", (x, number) -> x.simplify(number, 0)),
            new Call("31 reach", (x, number) -> x.reach(number, 1, 4)),
            new Call("31 reach from 0", (x, number) -> x.reach(0, number, 4)),
            new Call("31 reach, most 5", (x, number) -> x.reach(0, number, 5)),
            new Call("35 show", (x, number) -> x.show(number)));

    private Numbers() {
    }
}
