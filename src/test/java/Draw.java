import java.util.Arrays;

/**
 * Draws a diagram that is told by a text: a kind is a box, w a wire, x two wires that cross, e
 * nothing; "|" puts beside, ";" puts behind, and brackets come first. A sign that stands there more
 * often is drawn once.
 */
final class Draw {
    /** What the program and the plain model have in common, as far as it is needed here. */
    private interface Room {
        int box(char kind);

        int wires(int many);

        int crossing(int first, int second);

        int then(int first, int second);

        int beside(int first, int second);
    }

    private final Room room;
    private final String text;
    private final int[] known = new int[128];
    private int at;

    private Draw(Room room, String text) {
        this.room = room;
        this.text = text;
        Arrays.fill(known, -1);
    }

    static int of(Stringdrawer drawer, String text) {
        return new Draw(new Room() {
            @Override
            public int box(char kind) {
                return drawer.box(kind);
            }

            @Override
            public int wires(int many) {
                return drawer.wires(many);
            }

            @Override
            public int crossing(int first, int second) {
                return drawer.crossing(first, second);
            }

            @Override
            public int then(int first, int second) {
                return drawer.then(first, second);
            }

            @Override
            public int beside(int first, int second) {
                return drawer.beside(first, second);
            }
        }, text).row();
    }

    static int of(Plain plain, String text) {
        return new Draw(new Room() {
            @Override
            public int box(char kind) {
                return plain.box(kind);
            }

            @Override
            public int wires(int many) {
                return plain.wires(many);
            }

            @Override
            public int crossing(int first, int second) {
                return plain.crossing(first, second);
            }

            @Override
            public int then(int first, int second) {
                return plain.then(first, second);
            }

            @Override
            public int beside(int first, int second) {
                return plain.beside(first, second);
            }
        }, text).row();
    }

    /** Draws boxes until the room has so many diagrams. */
    static void fill(Stringdrawer drawer, int many) {
        while (drawer.diagrams() < many) {
            drawer.wires(0);
        }
    }

    /** Tells inputs and outputs, then each box with its sources, then the sources of outputs. */
    static String told(Stringdrawer x, int d) {
        StringBuilder text = new StringBuilder();
        text.append(x.inputs(d)).append('>').append(x.outputs(d));
        for (int box = 0; box < x.boxes(d); box++) {
            text.append(' ').append(x.kindAt(d, box));
            appendSources(x, d, box, text);
        }
        text.append(" .");
        appendSources(x, d, -1, text);
        return text.toString();
    }

    private static void appendSources(Stringdrawer x, int d, int box, StringBuilder text) {
        for (int place = 0; place < 7; place++) {
            int wire = place;
            Object source = Check.answer(() -> x.source(d, box, wire));
            if (source instanceof Integer) {
                text.append(place == 0 ? "" : ",").append(source);
            }
        }
    }

    /** The depth, found by going back from each box. */
    static int depth(Stringdrawer drawer, int diagram) {
        int deepest = 0;
        for (int box = 0; box < drawer.boxes(diagram); box++) {
            deepest = Math.max(deepest, depthOf(drawer, diagram, box));
        }
        return deepest;
    }

    private static int depthOf(Stringdrawer drawer, int diagram, int box) {
        int deepest = 0;
        int ins = Plain.arityIn(drawer.kindAt(diagram, box));
        for (int place = 0; place < ins; place++) {
            int source = drawer.source(diagram, box, place);
            deepest = source < 0 ? deepest
                    : Math.max(deepest, depthOf(drawer, diagram, source / 2));
        }
        return deepest + 1;
    }

    private int row() {
        int made = column();
        while (at < text.length() && text.charAt(at) == ';') {
            at++;
            made = room.then(made, column());
        }
        return made;
    }

    private int column() {
        int made = piece();
        while (at < text.length() && text.charAt(at) == '|') {
            at++;
            made = room.beside(made, piece());
        }
        return made;
    }

    private int piece() {
        char sign = text.charAt(at++);
        if (sign == '(') {
            int made = row();
            at++;
            return made;
        }
        if (known[sign] < 0) {
            known[sign] = switch (sign) {
                case 'w' -> room.wires(1);
                case 'x' -> room.crossing(1, 1);
                case 'e' -> room.wires(0);
                default -> room.box(sign);
            };
        }
        return known[sign];
    }
}
