import java.util.concurrent.Callable;

/** Tells what a room answers of its diagrams, rules, row and film, so that two can be compared. */
final class State {
    /** Of the diagrams behind these only the size is told, so that it takes some 400 calls. */
    private static final int TOLD = 11;

    private final Stringdrawer room;
    private final StringBuilder text = new StringBuilder();

    private State(Stringdrawer room) {
        this.room = room;
    }

    static String of(Stringdrawer room) {
        State state = new State(room);
        state.diagrams();
        state.rules();
        state.row();
        state.film();
        return state.text.toString();
    }

    private void add(String what, Callable<?> call) {
        text.append(what).append(' ').append(Check.answer(call)).append('\n');
    }

    private void diagrams() {
        add("diagrams", room::diagrams);
        add("boxes", room::allBoxes);
        add("mean rank", room::meanRank);
        for (int number = 0; number < room.diagrams(); number++) {
            int asked = number;
            if (number < TOLD) {
                add("" + number, () -> Draw.told(room, asked));
                add("rank", () -> room.rank(asked));
            } else {
                add("" + number, () -> room.boxes(asked));
            }
        }
    }

    private void rules() {
        add("rules", room::rules);
        add("share", room::trueShare);
        for (int number = 0; number < room.rules(); number++) {
            int rule = number;
            add("true", () -> room.isTrue(rule));
            for (int diagram = 0; diagram < Math.min(TOLD, room.diagrams()) && rule < 2;
                    diagram++) {
                int asked = diagram;
                add("matches", () -> room.matches(asked, rule));
                add("broken", () -> room.broken(asked, rule));
            }
        }
    }

    /** The row is seen by what diagrams make of it alone. */
    private void row() {
        for (int diagram = 0; diagram < Math.min(TOLD, room.diagrams()); diagram++) {
            int asked = diagram;
            for (int output = 0; output < room.outputs(diagram); output++) {
                int of = output;
                add("value", () -> room.value(asked, of));
            }
            add("holds", () -> room.holds(asked));
        }
    }

    private void film() {
        add("steps", room::steps);
        for (int step = 0; step < room.steps(); step++) {
            int asked = step;
            add("rule", () -> room.ruleOf(asked));
            add("match", () -> room.matchOf(asked));
        }
    }
}
