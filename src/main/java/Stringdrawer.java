import java.util.NoSuchElementException;

/**
 * A drawing room of diagrams that compute. What each method promises stands in the document; the
 * classes inside are: Grid (numbers modulo 7), Diagram (boxes and wires), Meaning (matrices), Rule,
 * Matching (matches and rewriting), Likeness, Film and Search (shortest films).
 */
public final class Stringdrawer {
    private static final int MOST_DIAGRAMS = 60;
    private static final int MOST_RULES = 20;
    private static final int MOST_EDGE = 6;
    private static final int MOST_BOXES = 24;
    private static final int MOST_TYPED = 12;
    private static final int MOST_REWRITES = 30;
    private static final int MOST_STEPS = 4;
    private static final int MOST_COME = 200;
    /** More matches than a search can go through before the 200th diagram has come. */
    private static final int MOST_MATCHES = 1 << 30;
    private static final int PRIME = 7;

    /** Two wires of each box at most go out of it, and two come into it. */
    private static final int PORTS = 2 * MOST_BOXES;
    private static final int SLOTS = PORTS + MOST_EDGE;
    private static final int CONDITIONS = PORTS + 2 * MOST_EDGE;
    private static final int MOST_FREE = MOST_BOXES + MOST_EDGE;

    private static final int COPY = 0;
    private static final int DROP = 1;
    private static final int ADD = 2;
    private static final int ZERO = 3;
    private static final int MERGE = 4;
    private static final int ANY = 5;
    private static final int SPLIT = 6;
    private static final int NONE = 7;
    private static final int NUMBER = 8;

    private static final char[] KINDS = {
        'c', 'd', 'a', 'z', 'm', 'u', 's', 'n', '0', '1', '2', '3', '4', '5', '6'};
    private static final int[] INS = {1, 1, 2, 0, 2, 0, 1, 1, 1, 1, 1, 1, 1, 1, 1};
    private static final int[] OUTS = {2, 0, 1, 1, 1, 1, 2, 0, 1, 1, 1, 1, 1, 1, 1};
    /** The box '0', which can't be turned, stands for itself. */
    private static final int[] TURNED = {4, 5, 6, 7, 0, 1, 2, 3, 8, 9, 12, 13, 10, 11, 14};
    private static final int[] INVERSES = {0, 1, 4, 5, 2, 3, 6};

    private final Diagram[] drawn = new Diagram[MOST_DIAGRAMS];
    private final Rule[] made = new Rule[MOST_RULES];
    private final int[] typed = new int[MOST_TYPED];
    private final int[] heights = new int[MOST_BOXES];
    private final Grid word = new Grid(1, MOST_TYPED);
    private final Meaning meaning = new Meaning();
    private final Matching matching = new Matching();
    private final Likeness likeness = new Likeness();
    private final Film film = new Film();
    private final Film trial = new Film();
    private final Diagram draft = new Diagram();
    private final Diagram spare = new Diagram();
    private Search search;
    private int drawnCount;
    private int madeCount;
    private int typedCount;

    public Stringdrawer() {
        drawnCount = 0;
        madeCount = 0;
        typedCount = 0;
    }

    public int box(char kind) throws IllegalArgumentException, IllegalStateException {
        int code = kindOf(kind);
        if (code < 0) {
            throw new IllegalArgumentException("no such kind");
        }
        checkRoom();
        Diagram diagram = new Diagram();
        diagram.begin(at(INS, code), at(OUTS, code));
        diagram.add(code);
        for (int way = 0; way < diagram.ins; way++) {
            diagram.link(-1 - way, way);
        }
        for (int way = 0; way < diagram.outs; way++) {
            diagram.link(way, -1 - way);
        }
        return keep(diagram);
    }

    public int wires(int many) throws IllegalArgumentException, IllegalStateException {
        return crossing(0, many);
    }

    public int crossing(int first, int second)
            throws IllegalArgumentException, IllegalStateException {
        if (first < 0 || first > MOST_EDGE || second < 0 || second > MOST_EDGE - first) {
            throw new IllegalArgumentException("0 to 6 wires in all");
        }
        checkRoom();
        Diagram diagram = new Diagram();
        diagram.begin(first + second, first + second);
        for (int input = 0; input < diagram.ins; input++) {
            int output = input < first ? second + input : input - first;
            diagram.link(-1 - input, -1 - output);
        }
        return keep(diagram);
    }

    public int then(int first, int second)
            throws IndexOutOfBoundsException, UnsupportedOperationException, IllegalStateException {
        Diagram ahead = diagramAt(first);
        Diagram behind = diagramAt(second);
        if (ahead.outs != behind.ins || ahead.size + behind.size > MOST_BOXES) {
            throw new UnsupportedOperationException("the diagrams do not fit");
        }
        checkRoom();
        Diagram diagram = new Diagram();
        diagram.chain(ahead, behind);
        return keep(diagram);
    }

    public int beside(int first, int second)
            throws IndexOutOfBoundsException, UnsupportedOperationException, IllegalStateException {
        Diagram one = diagramAt(first);
        Diagram other = diagramAt(second);
        if (one.ins + other.ins > MOST_EDGE || one.outs + other.outs > MOST_EDGE
                || one.size + other.size > MOST_BOXES) {
            throw new UnsupportedOperationException("the diagram would be too large");
        }
        checkRoom();
        Diagram diagram = new Diagram();
        diagram.join(one, other);
        return keep(diagram);
    }

    public int turn(int diagram)
            throws IndexOutOfBoundsException, UnsupportedOperationException, IllegalStateException {
        Diagram straight = diagramAt(diagram);
        if (straight.hasKind(NUMBER)) {
            throw new UnsupportedOperationException("a box 0 can't be turned");
        }
        checkRoom();
        Diagram turned = new Diagram();
        turned.turnOver(straight);
        return keep(turned);
    }

    public int inputs(int diagram) throws IndexOutOfBoundsException {
        return diagramAt(diagram).ins;
    }

    public int outputs(int diagram) throws IndexOutOfBoundsException {
        return diagramAt(diagram).outs;
    }

    public int boxes(int diagram) throws IndexOutOfBoundsException {
        return diagramAt(diagram).size;
    }

    public char kindAt(int diagram, int box) throws IndexOutOfBoundsException {
        Diagram asked = diagramAt(diagram);
        if (box < 0 || box >= asked.size) {
            throw new IndexOutOfBoundsException("no such box");
        }
        int code = at(asked.kinds, box);
        return code >= 0 && code < KINDS.length ? KINDS[code] : ' ';
    }

    public int source(int diagram, int box, int place)
            throws IndexOutOfBoundsException, NoSuchElementException {
        Diagram asked = diagramAt(diagram);
        if (box < -1 || box >= asked.size) {
            throw new IndexOutOfBoundsException("no such box");
        }
        if (place < 0 || place >= (box < 0 ? asked.outs : asked.insOf(box))) {
            throw new NoSuchElementException("no such wire or output");
        }
        return asked.sourceOf(box < 0 ? -1 - place : 2 * box + place);
    }

    public int depth(int diagram) throws IndexOutOfBoundsException {
        Diagram asked = diagramAt(diagram);
        int deepest = 0;
        for (int index = 0; index < asked.size; index++) {
            int box = at(asked.order, index);
            int height = heightOf(asked, box);
            put(heights, box, height);
            deepest = Math.max(deepest, height);
        }
        return deepest;
    }

    public boolean areAlike(int first, int second) throws IndexOutOfBoundsException {
        Diagram one = diagramAt(first);
        Diagram other = diagramAt(second);
        return likeness.test(one, other);
    }

    public int rank(int diagram) throws IndexOutOfBoundsException {
        return meaning.matrixOf(diagramAt(diagram)).rows;
    }

    public int entry(int diagram, int row, int column)
            throws IndexOutOfBoundsException, NoSuchElementException {
        Grid matrix = meaning.matrixOf(diagramAt(diagram));
        if (row < 0 || row >= matrix.rows || column < 0 || column >= matrix.width) {
            throw new NoSuchElementException("no such row or column");
        }
        return matrix.get(row, column);
    }

    public boolean areEqual(int first, int second) throws IndexOutOfBoundsException {
        Diagram one = diagramAt(first);
        Diagram other = diagramAt(second);
        return haveSameMeaning(one, other);
    }

    public int apart(int first, int second, int column)
            throws IndexOutOfBoundsException, UnsupportedOperationException,
            NoSuchElementException {
        Diagram one = diagramAt(first);
        Diagram other = diagramAt(second);
        if (!one.hasShapeOf(other)) {
            throw new UnsupportedOperationException("not as many inputs and outputs");
        }
        Grid matrix = meaning.matrixOf(one);
        Grid opposite = meaning.matrixOf(other);
        int row = opposite.firstOutside(matrix);
        int turnedRow = matrix.firstOutside(opposite);
        if (row < 0 && turnedRow < 0 || column < 0 || column >= matrix.width) {
            throw new NoSuchElementException("the same meaning, or no such column");
        }
        return row >= 0 ? matrix.get(row, column) : opposite.get(turnedRow, column);
    }

    public boolean isFunction(int diagram) throws IndexOutOfBoundsException {
        return computes(diagramAt(diagram));
    }

    public int type(int value) throws IllegalArgumentException, IllegalStateException {
        if (value < 0 || value >= PRIME) {
            throw new IllegalArgumentException("a value is 0 to 6");
        }
        if (typedCount >= MOST_TYPED) {
            throw new IllegalStateException("the row has 12 values");
        }
        put(typed, typedCount, value);
        typedCount++;
        return typedCount;
    }

    public int erase() {
        int were = typedCount;
        typedCount = 0;
        return were;
    }

    public int value(int diagram, int output)
            throws IndexOutOfBoundsException, UnsupportedOperationException {
        Diagram asked = diagramAt(diagram);
        if (output < 0 || output >= asked.outs) {
            throw new IndexOutOfBoundsException("no such output");
        }
        if (!computes(asked) || typedCount != asked.ins) {
            throw new UnsupportedOperationException("no function, or not as many values");
        }
        Grid matrix = meaning.matrixOf(asked);
        int sum = 0;
        for (int input = 0; input < asked.ins; input++) {
            sum += at(typed, input) * matrix.get(input, asked.ins + output);
        }
        return sum % PRIME;
    }

    public boolean holds(int diagram)
            throws IndexOutOfBoundsException, UnsupportedOperationException {
        Diagram asked = diagramAt(diagram);
        if (typedCount != asked.ins + asked.outs) {
            throw new UnsupportedOperationException("not as many values as inputs and outputs");
        }
        word.clear(typedCount);
        int row = word.open();
        for (int column = 0; column < typedCount; column++) {
            word.set(row, column, at(typed, column));
        }
        return meaning.matrixOf(asked).spans(word, row);
    }

    public int rule(int left, int right)
            throws IndexOutOfBoundsException, UnsupportedOperationException, IllegalStateException {
        Diagram taken = diagramAt(left);
        Diagram given = diagramAt(right);
        if (!taken.hasShapeOf(given) || taken.size == 0 || taken.hasStraightWire()) {
            throw new UnsupportedOperationException("these can't be a rule");
        }
        if (madeCount >= MOST_RULES) {
            throw new IllegalStateException("there are 20 rules");
        }
        made[madeCount] = new Rule(taken, given);
        madeCount++;
        return madeCount - 1;
    }

    public boolean isTrue(int rule) throws IndexOutOfBoundsException {
        Rule asked = ruleAt(rule);
        return haveSameMeaning(asked.left, asked.right);
    }

    public int matches(int diagram, int rule) throws IndexOutOfBoundsException {
        prepare(diagram, rule);
        return (int) matching.countAll(true);
    }

    public int broken(int diagram, int rule) throws IndexOutOfBoundsException {
        prepare(diagram, rule);
        return (int) (matching.countAll(false) - matching.countAll(true));
    }

    public int image(int diagram, int rule, int match, int box)
            throws IndexOutOfBoundsException, NoSuchElementException {
        prepare(diagram, rule);
        if (box < 0 || box >= ruleAt(rule).left.size) {
            throw new IndexOutOfBoundsException("no such box");
        }
        if (!matching.pick(match)) {
            throw new NoSuchElementException("no such match");
        }
        matching.lay();
        return at(matching.images, box);
    }

    public int rewrite(int diagram, int rule, int match)
            throws IndexOutOfBoundsException, NoSuchElementException,
            UnsupportedOperationException, IllegalStateException {
        prepare(diagram, rule);
        if (!matching.pick(match)) {
            throw new NoSuchElementException("no such match");
        }
        if (!matching.isSmall()) {
            throw new UnsupportedOperationException("more than 24 boxes");
        }
        checkRoom();
        Diagram rewritten = new Diagram();
        matching.rewriteInto(rewritten);
        return keep(rewritten);
    }

    public int simplify(int diagram, int most)
            throws IndexOutOfBoundsException, IllegalArgumentException,
            UnsupportedOperationException, IllegalStateException {
        draft.copy(diagramAt(diagram));
        if (most < 1 || most > MOST_REWRITES) {
            throw new IllegalArgumentException("1 to 30 steps");
        }
        int count = 0;
        int rule = lowestRule();
        while (rule >= 0 && count < most) {
            rewriteDraft();
            trial.setStep(count, rule, 0);
            count++;
            rule = count < most ? lowestRule() : -1;
        }
        trial.begin(count);
        checkRoom();
        film.copy(trial);
        return keepDraft();
    }

    public int reach(int first, int second, int most)
            throws IndexOutOfBoundsException, IllegalArgumentException, NoSuchElementException {
        Diagram start = diagramAt(first);
        Diagram goal = diagramAt(second);
        if (most < 0 || most > MOST_STEPS) {
            throw new IllegalArgumentException("0 to 4 steps");
        }
        Search used = usedSearch();
        int found = start.hasShapeOf(goal) ? used.find(start, goal, most, made, madeCount) : -1;
        if (found < 0) {
            throw new NoSuchElementException("there is no such film");
        }
        used.tell(found, film);
        return film.count;
    }

    public int steps() {
        return film.count;
    }

    public int ruleOf(int step) throws NoSuchElementException {
        checkStep(step);
        return at(film.rules, step);
    }

    public int matchOf(int step) throws NoSuchElementException {
        checkStep(step);
        return at(film.matches, step);
    }

    public int show(int diagram)
            throws IndexOutOfBoundsException, NoSuchElementException,
            UnsupportedOperationException, IllegalStateException {
        draft.copy(diagramAt(diagram));
        for (int step = 0; step < film.count; step++) {
            matching.prepare(draft, ruleAt(at(film.rules, step)));
            if (!matching.pick(at(film.matches, step))) {
                throw new NoSuchElementException("a step has no such match");
            }
            rewriteDraft();
        }
        checkRoom();
        return keepDraft();
    }

    public int diagrams() {
        return drawnCount;
    }

    public int rules() {
        return madeCount;
    }

    public long allBoxes() {
        long sum = 0;
        for (int index = 0; index < drawnCount; index++) {
            sum += diagramAt(index).size;
        }
        return sum;
    }

    public float trueShare() throws ArithmeticException {
        if (madeCount == 0) {
            throw new ArithmeticException("there are no rules");
        }
        int sum = 0;
        for (int index = 0; index < madeCount; index++) {
            Rule rule = ruleAt(index);
            sum += haveSameMeaning(rule.left, rule.right) ? 1 : 0;
        }
        return (float) sum / (float) madeCount;
    }

    public double meanRank() throws ArithmeticException {
        if (drawnCount == 0) {
            throw new ArithmeticException("there are no diagrams");
        }
        int sum = 0;
        for (int index = 0; index < drawnCount; index++) {
            sum += meaning.matrixOf(diagramAt(index)).rows;
        }
        return (double) sum / (double) drawnCount;
    }

    public boolean isSound() {
        boolean sound = true;
        for (int index = 0; index < drawnCount && sound; index++) {
            Diagram diagram = diagramAt(index);
            sound = meaning.isSameByBoxes(diagram, meaning.matrixOf(diagram));
        }
        for (int index = 0; index < madeCount && sound; index++) {
            Rule rule = ruleAt(index);
            sound = !haveSameMeaning(rule.left, rule.right) || isSoundRule(rule);
        }
        return sound;
    }

    private boolean isSoundRule(Rule rule) {
        boolean sound = true;
        for (int index = 0; index < drawnCount && sound; index++) {
            Diagram diagram = diagramAt(index);
            matching.prepare(diagram, rule);
            if (matching.first() && matching.isSmall()) {
                matching.rewriteInto(spare);
                sound = meaning.isSameByBoxes(spare, meaning.matrixOf(diagram));
            }
        }
        return sound;
    }

    private int kindOf(char kind) {
        int found = -1;
        for (int code = 0; code < KINDS.length; code++) {
            if (KINDS[code] == kind) {
                found = code;
            }
        }
        return found;
    }

    private void checkRoom() {
        if (drawnCount >= MOST_DIAGRAMS) {
            throw new IllegalStateException("there are 60 diagrams");
        }
    }

    private void checkStep(int step) {
        if (step < 0 || step >= film.count) {
            throw new NoSuchElementException("no such step");
        }
    }

    private Diagram diagramAt(int number) {
        if (number < 0 || number >= drawnCount || number >= MOST_DIAGRAMS
                || drawn[number] == null) {
            throw new IndexOutOfBoundsException("no such diagram");
        }
        return drawn[number];
    }

    private Rule ruleAt(int number) {
        if (number < 0 || number >= madeCount || number >= MOST_RULES || made[number] == null) {
            throw new IndexOutOfBoundsException("no such rule");
        }
        return made[number];
    }

    private int keep(Diagram diagram) {
        diagram.settle();
        if (drawnCount < MOST_DIAGRAMS) {
            drawn[drawnCount] = diagram;
            drawnCount++;
        }
        return drawnCount - 1;
    }

    /** The draft is drawn on again by later calls, so the room keeps a copy of it. */
    private int keepDraft() {
        Diagram copy = new Diagram();
        copy.copy(draft);
        return keep(copy);
    }

    private void rewriteDraft() {
        if (!matching.isSmall()) {
            throw new UnsupportedOperationException("more than 24 boxes");
        }
        matching.rewriteInto(spare);
        draft.copy(spare);
    }

    private void prepare(int diagram, int rule) {
        Diagram asked = diagramAt(diagram);
        matching.prepare(asked, ruleAt(rule));
    }

    /** Most rooms never look for a film, so that this is made when it is needed. */
    private Search usedSearch() {
        if (search == null) {
            search = new Search();
        }
        return search;
    }

    /** Leaves the matching at the first match of the rule that it answers. */
    private int lowestRule() {
        for (int rule = 0; rule < madeCount; rule++) {
            matching.prepare(draft, ruleAt(rule));
            if (matching.first()) {
                return rule;
            }
        }
        return -1;
    }

    private int heightOf(Diagram diagram, int box) {
        int height = 0;
        for (int way = 0; way < diagram.insOf(box); way++) {
            int source = diagram.sourceOf(2 * box + way);
            if (source >= 0) {
                height = Math.max(height, at(heights, source >> 1));
            }
        }
        return height + 1;
    }

    private boolean haveSameMeaning(Diagram first, Diagram second) {
        return first.hasShapeOf(second)
                && meaning.matrixOf(first).isSame(meaning.matrixOf(second));
    }

    /** As many rows as inputs, all beginning at inputs, leave one row of outputs to each. */
    private boolean computes(Diagram diagram) {
        Grid matrix = meaning.matrixOf(diagram);
        return matrix.rows == diagram.ins
                && (matrix.rows == 0 || matrix.leadOf(matrix.rows - 1) < diagram.ins);
    }

    private static int at(int[] row, int index) {
        return row != null && index >= 0 && index < row.length ? row[index] : 0;
    }

    private static void put(int[] row, int index, int value) {
        if (row != null && index >= 0 && index < row.length) {
            row[index] = value;
        }
    }

    /** Inputs and outputs have negative codes; their slots stand behind those of the boxes. */
    private static int slot(int code) {
        return code >= 0 ? code : PORTS - 1 - code;
    }

    private static int codeOf(int slot) {
        return slot < PORTS ? slot : PORTS - 1 - slot;
    }

    private static int modulo(int value) {
        int rest = value % PRIME;
        return rest < 0 ? rest + PRIME : rest;
    }

    /** Rows of numbers modulo 7; the cells are made once, and used for any width up to the most. */
    private static final class Grid {
        private final int most;
        private final int[] cells;
        private int rows;
        private int width;

        Grid(int mostRows, int mostColumns) {
            most = Math.max(0, mostRows);
            cells = new int[Math.max(0, mostRows * mostColumns)];
        }

        void clear(int columns) {
            rows = 0;
            width = columns;
        }

        /** Returns the number of a new row of zeros. */
        int open() {
            if (rows >= most) {
                return -1;
            }
            rows++;
            for (int column = 0; column < width; column++) {
                set(rows - 1, column, 0);
            }
            return rows - 1;
        }

        int get(int row, int column) {
            int index = row * width + column;
            return row >= 0 && row < rows && column >= 0 && column < width
                    && index >= 0 && index < cells.length ? cells[index] : 0;
        }

        void set(int row, int column, int value) {
            int index = row * width + column;
            if (row >= 0 && row < rows && column >= 0 && column < width
                    && index >= 0 && index < cells.length) {
                cells[index] = value;
            }
        }

        void add(int row, int column, int value) {
            set(row, column, modulo(get(row, column) + value));
        }

        void addRow(int row, int other, int times) {
            for (int column = 0; column < width; column++) {
                int more = get(other, column);
                if (more != 0) {
                    set(row, column, modulo(get(row, column) + times * more));
                }
            }
        }

        void scale(int row, int times) {
            for (int column = 0; column < width; column++) {
                set(row, column, modulo(times * get(row, column)));
            }
        }

        void swap(int row, int other) {
            for (int column = 0; column < width && row != other; column++) {
                int kept = get(row, column);
                set(row, column, get(other, column));
                set(other, column, kept);
            }
        }

        /** Takes a row out; the last one comes to its place. */
        void remove(int row) {
            for (int column = 0; column < width; column++) {
                set(row, column, get(rows - 1, column));
            }
            rows--;
        }

        /** Makes the rows those that the document asks of a matrix, with the same sums. */
        void reduce() {
            int settled = 0;
            for (int column = 0; column < width && settled < rows; column++) {
                int pivot = rowWith(column, settled);
                if (pivot >= 0) {
                    swap(pivot, settled);
                    scale(settled, at(INVERSES, get(settled, column)));
                    clearColumn(settled, column);
                    settled++;
                }
            }
            rows = settled;
        }

        private int rowWith(int column, int start) {
            for (int row = start; row < rows; row++) {
                if (get(row, column) != 0) {
                    return row;
                }
            }
            return -1;
        }

        private void clearColumn(int pivot, int column) {
            for (int row = 0; row < rows; row++) {
                int times = get(row, column);
                if (times != 0 && row != pivot) {
                    addRow(row, pivot, -times);
                }
            }
        }

        /** The column of the first number that is not 0, or the width of a row of zeros. */
        int leadOf(int row) {
            int column = 0;
            while (column < width && get(row, column) == 0) {
                column++;
            }
            return column;
        }

        /** Whether a row of another grid is a sum of multiples of these reduced rows. */
        boolean spans(Grid other, int wanted) {
            for (int column = 0; column < width; column++) {
                int sum = 0;
                for (int row = 0; row < rows; row++) {
                    sum += other.get(wanted, leadOf(row)) * get(row, column);
                }
                if (modulo(sum) != other.get(wanted, column)) {
                    return false;
                }
            }
            return true;
        }

        int firstOutside(Grid other) {
            for (int row = 0; row < other.rows; row++) {
                if (!spans(other, row)) {
                    return row;
                }
            }
            return -1;
        }

        boolean isSame(Grid other) {
            boolean same = rows == other.rows && width == other.width;
            for (int row = 0; row < rows && same; row++) {
                for (int column = 0; column < width && same; column++) {
                    same = get(row, column) == other.get(row, column);
                }
            }
            return same;
        }

        Grid copied() {
            Grid copy = new Grid(rows, width);
            copy.clear(width);
            for (int row = 0; row < rows; row++) {
                copy.open();
                for (int column = 0; column < width; column++) {
                    copy.set(row, column, get(row, column));
                }
            }
            return copy;
        }
    }

    /**
     * Boxes and wires. A source is -1 less an input, or 2 times a box plus the wire that goes out;
     * a target is -1 less an output, or 2 times a box plus the wire that comes in. Each wire is
     * kept from both of its ends.
     */
    private static final class Diagram {
        private final int[] kinds = new int[MOST_BOXES];
        private final int[] sources = new int[SLOTS];
        private final int[] targets = new int[SLOTS];
        private final int[] order = new int[MOST_BOXES];
        private final int[] below = new int[MOST_BOXES];
        private int ins;
        private int outs;
        private int size;
        private int placed;
        private int marked;
        private Grid matrix;

        void begin(int inputs, int outputs) {
            ins = inputs;
            outs = outputs;
            size = 0;
            matrix = null;
        }

        void add(int kind) {
            put(kinds, size, kind);
            size++;
        }

        void addAll(Diagram other) {
            for (int box = 0; box < other.size; box++) {
                add(at(other.kinds, box));
            }
        }

        void link(int source, int target) {
            put(targets, slot(source), target);
            put(sources, slot(target), source);
        }

        int sourceOf(int target) {
            return at(sources, slot(target));
        }

        int targetOf(int source) {
            return at(targets, slot(source));
        }

        int insOf(int box) {
            return at(INS, at(kinds, box));
        }

        int outsOf(int box) {
            return at(OUTS, at(kinds, box));
        }

        boolean isSource(int code) {
            int box = code >> 1;
            return code < 0 ? -1 - code < ins : box < size && (code & 1) < outsOf(box);
        }

        boolean hasShapeOf(Diagram other) {
            return ins == other.ins && outs == other.outs;
        }

        boolean hasKind(int kind) {
            boolean found = false;
            for (int box = 0; box < size; box++) {
                found = found || at(kinds, box) == kind;
            }
            return found;
        }

        boolean hasStraightWire() {
            boolean found = false;
            for (int input = 0; input < ins; input++) {
                found = found || targetOf(-1 - input) < 0;
            }
            return found;
        }

        /** An output of the first diagram and the input behind it have the same code. */
        void chain(Diagram first, Diagram second) {
            int shift = 2 * first.size;
            begin(first.ins, second.outs);
            addAll(first);
            addAll(second);
            for (int slot = 0; slot < SLOTS; slot++) {
                int source = codeOf(slot);
                if (first.isSource(source)) {
                    int target = first.targetOf(source);
                    link(source, target >= 0 ? target : shifted(second.targetOf(target), shift, 0));
                }
                if (source >= 0 && second.isSource(source)) {
                    link(source + shift, shifted(second.targetOf(source), shift, 0));
                }
            }
        }

        void join(Diagram first, Diagram second) {
            int shift = 2 * first.size;
            begin(first.ins + second.ins, first.outs + second.outs);
            addAll(first);
            addAll(second);
            for (int slot = 0; slot < SLOTS; slot++) {
                int source = codeOf(slot);
                if (first.isSource(source)) {
                    link(source, first.targetOf(source));
                }
                if (second.isSource(source)) {
                    int target = second.targetOf(source);
                    link(shifted(source, shift, first.ins), shifted(target, shift, first.outs));
                }
            }
        }

        private int shifted(int code, int shift, int edge) {
            return code >= 0 ? code + shift : code - edge;
        }

        void turnOver(Diagram straight) {
            begin(straight.outs, straight.ins);
            for (int box = 0; box < straight.size; box++) {
                add(at(TURNED, at(straight.kinds, box)));
            }
            for (int slot = 0; slot < SLOTS; slot++) {
                int source = codeOf(slot);
                if (straight.isSource(source)) {
                    link(straight.targetOf(source), source);
                }
            }
        }

        void copy(Diagram other) {
            begin(other.ins, other.outs);
            size = other.size;
            System.arraycopy(other.kinds, 0, kinds, 0, MOST_BOXES);
            System.arraycopy(other.sources, 0, sources, 0, SLOTS);
            System.arraycopy(other.targets, 0, targets, 0, SLOTS);
            System.arraycopy(other.order, 0, order, 0, MOST_BOXES);
            System.arraycopy(other.below, 0, below, 0, MOST_BOXES);
        }

        /** Finds an order in which each box stands behind its sources, and what is below each. */
        void settle() {
            placed = 0;
            marked = 0;
            for (int box = 0; box < size; box++) {
                place(box, 0);
            }
            for (int index = placed - 1; index >= 0; index--) {
                int box = at(order, index);
                int found = 1 << box;
                for (int way = 0; way < outsOf(box); way++) {
                    int target = targetOf(2 * box + way);
                    found |= target >= 0 ? at(below, target >> 1) : 0;
                }
                put(below, box, found);
            }
        }

        private void place(int box, int deep) {
            if (deep > MOST_BOXES || (marked >> box & 1) != 0) {
                return;
            }
            marked |= 1 << box;
            for (int way = 0; way < insOf(box); way++) {
                int source = sourceOf(2 * box + way);
                if (source >= 0) {
                    place(source >> 1, deep + 1);
                }
            }
            put(order, placed, box);
            placed++;
        }
    }

    /** Finds matrices in two ways: from all conditions at once, and box by box. */
    private static final class Meaning {
        private final Grid conditions = new Grid(CONDITIONS, SLOTS + 2 * MOST_EDGE);
        private final Grid flows = new Grid(MOST_FREE, SLOTS);
        private final Grid found = new Grid(MOST_FREE, 2 * MOST_EDGE);

        /** A diagram never changes, so that its matrix is found once. */
        Grid matrixOf(Diagram diagram) {
            if (diagram.matrix == null) {
                findAtOnce(diagram);
                diagram.matrix = found.copied();
            }
            return diagram.matrix;
        }

        boolean isSameByBoxes(Diagram diagram, Grid matrix) {
            findByBoxes(diagram);
            return found.isSame(matrix);
        }

        /**
         * The columns are the wires, then the inputs and outputs, so that reducing leaves, behind
         * the conditions of wires, those of the inputs and outputs alone.
         */
        private void findAtOnce(Diagram diagram) {
            int width = diagram.ins + diagram.outs;
            conditions.clear(SLOTS + width);
            for (int box = 0; box < diagram.size; box++) {
                tell(diagram, box);
            }
            for (int input = 0; input < diagram.ins; input++) {
                tellTimes(slot(-1 - input), 1, SLOTS + input);
            }
            for (int output = 0; output < diagram.outs; output++) {
                tellTimes(slot(diagram.sourceOf(-1 - output)), 1, SLOTS + diagram.ins + output);
            }
            conditions.reduce();
            solve(width);
            found.reduce();
        }

        private void tell(Diagram diagram, int box) {
            int in = slot(diagram.sourceOf(2 * box));
            int otherIn = slot(diagram.sourceOf(2 * box + 1));
            int out = 2 * box;
            int otherOut = out + 1;
            int kind = at(diagram.kinds, box);
            switch (kind) {
                case COPY:
                    tellTimes(in, 1, out);
                    tellTimes(in, 1, otherOut);
                    break;
                case MERGE:
                    tellTimes(in, 1, otherIn);
                    tellTimes(in, 1, out);
                    break;
                case ADD:
                    tellSum(in, otherIn, out);
                    break;
                case SPLIT:
                    tellSum(out, otherOut, in);
                    break;
                case ZERO:
                    tellTimes(out, 1, -1);
                    break;
                case NONE:
                    tellTimes(in, 1, -1);
                    break;
                case DROP:
                case ANY:
                    break;
                default:
                    tellTimes(in, kind - NUMBER, out);
                    break;
            }
        }

        /** The wire -1 is none, and counts 0. */
        private void tellTimes(int wire, int times, int product) {
            int row = conditions.open();
            conditions.add(row, wire, times);
            conditions.add(row, product, -1);
        }

        private void tellSum(int wire, int other, int sum) {
            int row = conditions.open();
            conditions.add(row, wire, 1);
            conditions.add(row, other, 1);
            conditions.add(row, sum, -1);
        }

        private void solve(int width) {
            int bound = 0;
            for (int row = 0; row < conditions.rows; row++) {
                int lead = conditions.leadOf(row) - SLOTS;
                bound |= lead >= 0 ? 1 << lead : 0;
            }
            found.clear(width);
            for (int column = 0; column < width; column++) {
                if ((bound >> column & 1) == 0) {
                    solveFor(column);
                }
            }
        }

        private void solveFor(int column) {
            int solution = found.open();
            found.set(solution, column, 1);
            for (int row = 0; row < conditions.rows; row++) {
                int lead = conditions.leadOf(row) - SLOTS;
                if (lead >= 0) {
                    found.set(solution, lead, modulo(-conditions.get(row, SLOTS + column)));
                }
            }
        }

        /** The rows of flows are values of all wires so far, of which all that can be are sums. */
        private void findByBoxes(Diagram diagram) {
            flows.clear(SLOTS);
            for (int input = 0; input < diagram.ins; input++) {
                flows.set(flows.open(), slot(-1 - input), 1);
            }
            for (int index = 0; index < diagram.size; index++) {
                flow(diagram, at(diagram.order, index));
            }
            found.clear(diagram.ins + diagram.outs);
            for (int row = 0; row < flows.rows; row++) {
                found.open();
                for (int input = 0; input < diagram.ins; input++) {
                    found.set(row, input, flows.get(row, slot(-1 - input)));
                }
                for (int output = 0; output < diagram.outs; output++) {
                    int wire = slot(diagram.sourceOf(-1 - output));
                    found.set(row, diagram.ins + output, flows.get(row, wire));
                }
            }
            found.reduce();
        }

        private void flow(Diagram diagram, int box) {
            int in = slot(diagram.sourceOf(2 * box));
            int otherIn = slot(diagram.sourceOf(2 * box + 1));
            int out = 2 * box;
            int otherOut = out + 1;
            int kind = at(diagram.kinds, box);
            switch (kind) {
                case COPY:
                    pour(in, out, 1);
                    pour(in, otherOut, 1);
                    break;
                case MERGE:
                    bind(in, otherIn);
                    pour(in, out, 1);
                    break;
                case ADD:
                    pour(in, out, 1);
                    pour(otherIn, out, 1);
                    break;
                case SPLIT:
                    pour(in, otherOut, 1);
                    flows.set(flows.open(), out, 1);
                    flows.set(flows.rows - 1, otherOut, PRIME - 1);
                    break;
                case ANY:
                    flows.set(flows.open(), out, 1);
                    break;
                case NONE:
                    bind(in, -1);
                    break;
                case ZERO:
                case DROP:
                    break;
                default:
                    pour(in, out, kind - NUMBER);
                    break;
            }
        }

        private void pour(int wire, int other, int times) {
            for (int row = 0; row < flows.rows; row++) {
                flows.add(row, other, times * flows.get(row, wire));
            }
        }

        /** Leaves the sums in which two wires have the same value; the wire -1 is none, with 0. */
        private void bind(int wire, int other) {
            int spent = -1;
            for (int row = 0; row < flows.rows; row++) {
                int gap = gapOf(row, wire, other);
                if (gap != 0 && spent < 0) {
                    spent = row;
                } else if (gap != 0) {
                    int times = gap * at(INVERSES, gapOf(spent, wire, other));
                    flows.addRow(row, spent, -times);
                }
            }
            if (spent >= 0) {
                flows.remove(spent);
            }
        }

        private int gapOf(int row, int wire, int other) {
            return modulo(flows.get(row, wire) - flows.get(row, other));
        }
    }

    /** Two diagrams; the left one's boxes fall into parts that hang together by wires. */
    private static final class Rule {
        private final Diagram left;
        private final Diagram right;
        private final int[] roots = new int[MOST_BOXES];
        private final int[] partOf = new int[MOST_BOXES];
        private int parts;

        Rule(Diagram taken, Diagram given) {
            left = taken;
            right = given;
            parts = 0;
            for (int box = 0; box < MOST_BOXES; box++) {
                put(partOf, box, -1);
            }
            for (int box = 0; box < left.size; box++) {
                if (at(partOf, box) < 0) {
                    put(roots, parts, box);
                    spread(box, 0);
                    parts++;
                }
            }
        }

        private void spread(int box, int deep) {
            if (deep > MOST_BOXES || at(partOf, box) >= 0) {
                return;
            }
            put(partOf, box, parts);
            for (int way = 0; way < left.insOf(box); way++) {
                int source = left.sourceOf(2 * box + way);
                if (source >= 0) {
                    spread(source >> 1, deep + 1);
                }
            }
            for (int way = 0; way < left.outsOf(box); way++) {
                int target = left.targetOf(2 * box + way);
                if (target >= 0) {
                    spread(target >> 1, deep + 1);
                }
            }
        }
    }

    /**
     * The matches of a rule in a diagram. The image of the smallest box of a part, its root, tells
     * those of the whole part; so a match is a row of root images, part by part, and matches are in
     * the order of these rows.
     */
    private static final class Matching {
        private final int[] paths = new int[MOST_BOXES * MOST_BOXES];
        private final int[] masks = new int[MOST_BOXES * MOST_BOXES];
        private final int[] leaks = new int[MOST_BOXES * MOST_BOXES];
        private final int[] twins = new int[MOST_BOXES];
        private final int[] turns = new int[MOST_BOXES];
        private final int[] spots = new int[MOST_BOXES];
        private final int[] kept = new int[MOST_BOXES];
        private final int[] copies = new int[MOST_BOXES];
        private final int[] images = new int[MOST_BOXES];
        private final int[] queue = new int[MOST_BOXES];
        private final int[] fresh = new int[MOST_BOXES];
        private final int[] entries = new int[MOST_EDGE];
        private Diagram there = new Diagram();
        private Rule rule = new Rule(new Diagram(), new Diagram());
        private int queued;
        private int covered;
        /** From this part on, twins are taken in one order alone. */
        private int sortedFrom;
        /** If a part fits nowhere, the rows of those behind it are left as they were. */
        private boolean possible;
        /** Whether broken matches are left out. */
        private boolean strict;

        void prepare(Diagram diagram, Rule asked) {
            there = diagram;
            rule = asked;
            possible = true;
            for (int part = 0; part < rule.parts && possible; part++) {
                possible = false;
                for (int spot = 0; spot < there.size; spot++) {
                    boolean fits = embed(at(rule.roots, part), spot);
                    put(masks, MOST_BOXES * part + spot, fits ? covered : 0);
                    put(leaks, MOST_BOXES * part + spot, fits ? leakOfImages() : 0);
                    possible = possible || fits;
                }
                put(twins, part, twinOf(part));
            }
        }

        /** Puts the part of the root to the boxes that its wires lead to from the spot. */
        private boolean embed(int root, int spot) {
            queued = 0;
            covered = 0;
            for (int box = 0; box < MOST_BOXES; box++) {
                put(images, box, -1);
            }
            boolean fits = assign(2 * root, 2 * spot);
            for (int head = 0; head < queued && head < MOST_BOXES && fits; head++) {
                fits = follow(at(queue, head));
                put(paths, MOST_BOXES * at(queue, head) + spot, at(images, at(queue, head)));
            }
            return fits;
        }

        private boolean follow(int box) {
            int image = at(images, box);
            Diagram left = rule.left;
            boolean fits = true;
            for (int way = 0; way < left.insOf(box) && fits; way++) {
                fits = assign(left.sourceOf(2 * box + way), there.sourceOf(2 * image + way));
            }
            for (int way = 0; way < left.outsOf(box) && fits; way++) {
                fits = assign(left.targetOf(2 * box + way), there.targetOf(2 * image + way));
            }
            return fits;
        }

        /** An input or output of the left diagram may be anything. */
        private boolean assign(int code, int codeThere) {
            if (code < 0) {
                return true;
            }
            int box = code >> 1;
            int spot = codeThere >> 1;
            if (codeThere < 0 || (code & 1) != (codeThere & 1)) {
                return false;
            }
            if (at(images, box) >= 0) {
                return at(images, box) == spot;
            }
            if ((covered >> spot & 1) != 0 || at(rule.left.kinds, box) != at(there.kinds, spot)) {
                return false;
            }
            put(images, box, spot);
            covered |= 1 << spot;
            put(queue, queued, box);
            queued++;
            return true;
        }

        /** All boxes to which ways lead by wires that are not of the left diagram. */
        private int leakOfImages() {
            int leak = 0;
            for (int index = 0; index < queued; index++) {
                int box = at(queue, index);
                for (int way = 0; way < rule.left.outsOf(box); way++) {
                    int target = there.targetOf(2 * at(images, box) + way);
                    if (rule.left.targetOf(2 * box + way) < 0 && target >= 0) {
                        leak |= at(there.below, target >> 1);
                    }
                }
            }
            return leak;
        }

        /** The last part ahead that fits in the very same places, or -1. */
        private int twinOf(int part) {
            int twin = -1;
            for (int other = 0; other < part; other++) {
                twin = areTwins(part, other) ? other : twin;
            }
            return twin;
        }

        private boolean areTwins(int part, int other) {
            boolean same = true;
            for (int spot = 0; spot < there.size && same; spot++) {
                int cell = MOST_BOXES * part + spot;
                int otherCell = MOST_BOXES * other + spot;
                same = at(masks, cell) == at(masks, otherCell)
                        && at(leaks, cell) == at(leaks, otherCell);
            }
            return same;
        }

        /** Ways that lead back are never undone by more images, so that a bad start is given up. */
        private boolean canTake(int cell, int taken, int leaked) {
            int mask = at(masks, cell);
            return mask != 0 && (mask & taken) == 0
                    && (!strict || ((taken | mask) & (leaked | at(leaks, cell))) == 0);
        }

        long countAll(boolean unbroken) {
            strict = unbroken;
            return possible ? countFrom(0, 0, 0) : 0;
        }

        /** Twins can change places, so that they are counted in one order alone. */
        private long countFrom(int part, int taken, int leaked) {
            long changes = 1;
            sortedFrom = part;
            for (int other = part; other < rule.parts; other++) {
                int twin = at(twins, other);
                put(turns, other, twin >= part ? at(turns, twin) + 1 : 1);
                changes *= at(turns, other);
            }
            return changes * tally(part, taken, leaked);
        }

        private long tally(int part, int taken, int leaked) {
            if (part >= rule.parts || part >= MOST_BOXES) {
                return 1;
            }
            long sum = 0;
            for (int spot = startOf(part); spot < there.size; spot++) {
                int cell = MOST_BOXES * part + spot;
                if (canTake(cell, taken, leaked)) {
                    put(spots, part, spot);
                    sum += tally(part + 1, taken | at(masks, cell), leaked | at(leaks, cell));
                }
            }
            return sum;
        }

        private int startOf(int part) {
            int twin = at(twins, part);
            return twin >= sortedFrom ? at(spots, twin) + 1 : 0;
        }

        /** In the first match, twins stand in their order. */
        boolean first() {
            strict = true;
            sortedFrom = 0;
            return possible && seek(0, 0, 0, false);
        }

        boolean next() {
            strict = true;
            sortedFrom = MOST_BOXES;
            return possible && seek(0, 0, 0, true);
        }

        /**
         * Goes to the first match, or behind the row of spots that is kept, to the next one. Those
         * that would be repeated by the copies are passed over.
         */
        private boolean seek(int part, int taken, int leaked, boolean behind) {
            if (part >= rule.parts || part >= MOST_BOXES) {
                return !behind;
            }
            int start = behind ? at(spots, part) : startOf(part);
            boolean found = false;
            for (int spot = start; spot < there.size && !found; spot++) {
                int cell = MOST_BOXES * part + spot;
                if (canTake(cell, taken, leaked) && !isRepeated(spot, taken)) {
                    put(spots, part, spot);
                    found = seek(part + 1, taken | at(masks, cell), leaked | at(leaks, cell),
                            behind && spot == start);
                }
            }
            return found;
        }

        /** With the two parts exchanged, this is a match ahead, which makes a diagram like it. */
        private boolean isRepeated(int spot, int taken) {
            int both = at(copies, spot);
            return both != 0 && (both & taken) == 0;
        }

        /** The number of the match at which this is, found by counting those ahead. */
        long number() {
            System.arraycopy(spots, 0, kept, 0, MOST_BOXES);
            long ahead = 0;
            int taken = 0;
            int leaked = 0;
            for (int part = 0; part < rule.parts; part++) {
                int end = at(kept, part);
                for (int spot = 0; spot < end; spot++) {
                    int cell = MOST_BOXES * part + spot;
                    if (canTake(cell, taken, leaked)) {
                        ahead += countFrom(part + 1, taken | at(masks, cell),
                                leaked | at(leaks, cell));
                    }
                }
                taken |= at(masks, MOST_BOXES * part + end);
                leaked |= at(leaks, MOST_BOXES * part + end);
            }
            System.arraycopy(kept, 0, spots, 0, MOST_BOXES);
            return ahead;
        }

        boolean pick(int number) {
            long ahead = number;
            int taken = 0;
            int leaked = 0;
            boolean found = possible && number >= 0;
            strict = true;
            for (int part = 0; part < rule.parts && found; part++) {
                found = false;
                for (int spot = 0; spot < there.size && !found; spot++) {
                    int cell = MOST_BOXES * part + spot;
                    if (canTake(cell, taken, leaked)) {
                        int nowTaken = taken | at(masks, cell);
                        int nowLeaked = leaked | at(leaks, cell);
                        long many = countFrom(part + 1, nowTaken, nowLeaked);
                        found = ahead < many;
                        ahead -= found ? 0 : many;
                        taken = found ? nowTaken : taken;
                        leaked = found ? nowLeaked : leaked;
                        put(spots, part, spot);
                    }
                }
            }
            return found;
        }

        boolean isSmall() {
            return there.size - rule.left.size + rule.right.size <= MOST_BOXES;
        }

        /** Finds the images of all boxes of the left diagram from those of the roots. */
        void lay() {
            covered = 0;
            for (int box = 0; box < rule.left.size; box++) {
                int spot = at(spots, at(rule.partOf, box));
                int image = at(paths, MOST_BOXES * box + spot);
                put(images, box, image);
                covered |= 1 << image;
            }
        }

        /** Rewrites by the match at which this is; what is made must not be the one there. */
        void rewriteInto(Diagram rewritten) {
            lay();
            rewritten.begin(there.ins, there.outs);
            for (int box = 0; box < there.size; box++) {
                if ((covered >> box & 1) == 0) {
                    put(fresh, box, 2 * rewritten.size);
                    rewritten.add(at(there.kinds, box));
                }
            }
            for (int box = 0; box < rule.left.size; box++) {
                put(fresh, at(images, box), -1 - box);
            }
            findEntries();
            int shift = 2 * rewritten.size;
            rewritten.addAll(rule.right);
            wireKept(rewritten, shift);
            wireRight(rewritten, shift);
            rewritten.settle();
        }

        /** What goes into the images by an input of the rule comes from a box that is none. */
        private void findEntries() {
            for (int input = 0; input < rule.left.ins; input++) {
                int target = rule.left.targetOf(-1 - input);
                int source = there.sourceOf(2 * at(images, target >> 1) + (target & 1));
                put(entries, input,
                        source < 0 ? source : at(fresh, source >> 1) + (source & 1));
            }
        }

        private void wireKept(Diagram rewritten, int shift) {
            for (int box = 0; box < there.size; box++) {
                int start = at(fresh, box);
                for (int way = 0; way < there.insOf(box) && start >= 0; way++) {
                    rewritten.link(sourceFor(there.sourceOf(2 * box + way), shift), start + way);
                }
            }
            for (int output = 0; output < there.outs; output++) {
                int source = sourceFor(there.sourceOf(-1 - output), shift);
                rewritten.link(source, -1 - output);
            }
        }

        private void wireRight(Diagram rewritten, int shift) {
            Diagram right = rule.right;
            for (int box = 0; box < right.size; box++) {
                for (int way = 0; way < right.insOf(box); way++) {
                    int source = right.sourceOf(2 * box + way);
                    rewritten.link(source >= 0 ? source + shift : at(entries, -1 - source),
                            2 * box + way + shift);
                }
            }
        }

        /** What was a source in the diagram, or came out of the images, comes from here now. */
        private int sourceFor(int source, int shift) {
            if (source < 0) {
                return source;
            }
            int start = at(fresh, source >> 1);
            if (start >= 0) {
                return start + (source & 1);
            }
            int output = rule.left.targetOf(2 * (-1 - start) + (source & 1));
            int inside = rule.right.sourceOf(output);
            return inside >= 0 ? inside + shift : at(entries, -1 - inside);
        }
    }

    /** Tells whether two diagrams are alike. */
    private static final class Likeness {
        private final int[] pairs = new int[MOST_BOXES];
        private final int[] backs = new int[MOST_BOXES];
        private final int[] queue = new int[MOST_BOXES];
        private final int[] codes = new int[MOST_BOXES];
        private Diagram first = new Diagram();
        private Diagram second = new Diagram();
        private int queued;

        /** A part without inputs and outputs can be put to any that is like it. */
        boolean test(Diagram one, Diagram other) {
            begin(one, other);
            boolean alike = one.hasShapeOf(other) && one.size == other.size && pairEdges()
                    && spread(0);
            for (int box = 0; box < one.size && alike; box++) {
                alike = at(pairs, box) >= 0;
                for (int match = 0; match < other.size && !alike; match++) {
                    int start = queued;
                    alike = at(backs, match) < 0 && meet(2 * box, 2 * match) && spread(start);
                    if (!alike) {
                        takeBack(start);
                    }
                }
            }
            return alike;
        }

        private void begin(Diagram one, Diagram other) {
            first = one;
            second = other;
            queued = 0;
            for (int box = 0; box < MOST_BOXES; box++) {
                put(pairs, box, -1);
                put(backs, box, -1);
            }
        }

        private boolean pairEdges() {
            boolean alike = true;
            for (int input = 0; input < first.ins && alike; input++) {
                alike = meet(first.targetOf(-1 - input), second.targetOf(-1 - input));
            }
            for (int output = 0; output < first.outs && alike; output++) {
                alike = meet(first.sourceOf(-1 - output), second.sourceOf(-1 - output));
            }
            return alike;
        }

        private void takeBack(int start) {
            for (int index = start; index < queued; index++) {
                int box = at(queue, index);
                put(backs, at(pairs, box), -1);
                put(pairs, box, -1);
            }
            queued = start;
        }

        private boolean spread(int start) {
            boolean alike = true;
            for (int head = start; head < queued && head < MOST_BOXES && alike; head++) {
                int box = at(queue, head);
                int other = at(pairs, box);
                for (int way = 0; way < first.insOf(box) && alike; way++) {
                    alike = meet(first.sourceOf(2 * box + way), second.sourceOf(2 * other + way));
                }
                for (int way = 0; way < first.outsOf(box) && alike; way++) {
                    alike = meet(first.targetOf(2 * box + way), second.targetOf(2 * other + way));
                }
            }
            return alike;
        }

        private boolean meet(int code, int otherCode) {
            if (code < 0 || otherCode < 0) {
                return code == otherCode;
            }
            int box = code >> 1;
            int other = otherCode >> 1;
            if ((code & 1) != (otherCode & 1) || at(first.kinds, box) != at(second.kinds, other)) {
                return false;
            }
            if (at(pairs, box) >= 0 || at(backs, other) >= 0) {
                return at(pairs, box) == other && at(backs, other) == box;
            }
            put(pairs, box, other);
            put(backs, other, box);
            put(queue, queued, box);
            queued++;
            return true;
        }

        /**
         * Tells for each box of a part without inputs and outputs the boxes of this part and of one
         * that is like it, if they can be exchanged so that a box ahead comes to its place, else 0.
         */
        void findCopies(Diagram diagram, int[] copies) {
            begin(diagram, diagram);
            boolean isWired = pairEdges() && spread(0);
            int start = queued;
            for (int box = 0; box < diagram.size; box++) {
                int both = 0;
                boolean isApart = isWired && at(pairs, box) < 0;
                for (int other = box - 1; other >= 0 && isApart && both == 0; other--) {
                    if (meet(2 * box, 2 * other) && spread(start)) {
                        both = pairedFrom(start);
                    }
                    takeBack(start);
                }
                put(copies, box, both);
            }
        }

        private int pairedFrom(int start) {
            int both = 0;
            for (int index = start; index < queued; index++) {
                int box = at(queue, index);
                both |= 1 << box | 1 << at(pairs, box);
            }
            return both;
        }

        /** Diagrams that are alike have the same code; most others have another one. */
        int summaryOf(Diagram diagram) {
            int sum = diagram.size;
            for (int index = 0; index < diagram.size; index++) {
                int box = at(diagram.order, index);
                int code = mixed(1, at(diagram.kinds, box));
                for (int way = 0; way < diagram.insOf(box); way++) {
                    code = mixed(code, codeFrom(diagram.sourceOf(2 * box + way)));
                }
                put(codes, box, code);
                sum += mixed(code, 1);
            }
            for (int output = 0; output < diagram.outs; output++) {
                sum = mixed(sum, codeFrom(diagram.sourceOf(-1 - output)));
            }
            return sum;
        }

        private int codeFrom(int source) {
            return source < 0 ? source : mixed(at(codes, source >> 1), source & 1);
        }

        private int mixed(int code, int more) {
            int mix = (code ^ more * 0x2545f491) * 0x2c1b3c6d;
            return mix ^ mix >>> 15;
        }
    }

    /** A row of steps, each a rule and the number of a match. */
    private static final class Film {
        private final int[] rules = new int[MOST_REWRITES];
        private final int[] matches = new int[MOST_REWRITES];
        private int count;

        /** The steps of a new film are set afterwards. */
        void begin(int length) {
            count = Math.max(0, Math.min(length, MOST_REWRITES));
        }

        void setStep(int step, int rule, int match) {
            put(rules, step, rule);
            put(matches, step, match);
        }

        void copy(Film other) {
            begin(other.count);
            for (int step = 0; step < count; step++) {
                setStep(step, at(other.rules, step), at(other.matches, step));
            }
        }
    }

    /** Looks for a shortest film: diagrams arrive in the order of the films that lead there. */
    private static final class Search {
        private final Matching matching = new Matching();
        private final Likeness likeness = new Likeness();
        private final Diagram[] arrived = new Diagram[MOST_COME];
        private final int[] codes = new int[MOST_COME];
        private final int[] parents = new int[MOST_COME];
        private final int[] rules = new int[MOST_COME];
        private final int[] matches = new int[MOST_COME];
        private final int[] lengths = new int[MOST_COME];
        private int count;

        /** Returns which one of the diagrams that arrive is alike the goal, or -1. */
        int find(Diagram start, Diagram goal, int most, Rule[] made, int madeCount) {
            arrival(0).copy(start);
            put(codes, 0, likeness.summaryOf(start));
            put(lengths, 0, 0);
            count = 1;
            int found = likeness.test(start, goal) ? 0 : -1;
            boolean goesOn = found < 0;
            for (int parent = 0; parent < count && goesOn; parent++) {
                boolean isShort = at(lengths, parent) < most;
                if (isShort) {
                    likeness.findCopies(arrival(parent), matching.copies);
                }
                for (int rule = 0; rule < madeCount && isShort && goesOn; rule++) {
                    if (rule < made.length && made[rule] != null) {
                        found = goOn(parent, made[rule], rule, goal);
                    }
                    goesOn = found < 0 && count < MOST_COME;
                }
            }
            return found;
        }

        private int goOn(int parent, Rule rule, int number, Diagram goal) {
            int found = -1;
            matching.prepare(arrival(parent), rule);
            boolean more = matching.isSmall() && matching.first();
            for (int match = 0; match < MOST_MATCHES && more; match++) {
                matching.rewriteInto(arrival(count));
                put(codes, count, likeness.summaryOf(arrival(count)));
                if (isNew()) {
                    put(parents, count, parent);
                    put(rules, count, number);
                    put(matches, count, (int) matching.number());
                    put(lengths, count, at(lengths, parent) + 1);
                    found = likeness.test(arrival(count), goal) ? count : -1;
                    count++;
                }
                more = found < 0 && count < MOST_COME && matching.next();
            }
            return found;
        }

        private boolean isNew() {
            boolean fresh = true;
            for (int index = 0; index < count && fresh; index++) {
                fresh = at(codes, index) != at(codes, count)
                        || !likeness.test(arrival(index), arrival(count));
            }
            return fresh;
        }

        /** Most searches end early, so that these are made when they are needed. */
        private Diagram arrival(int index) {
            int place = Math.max(0, Math.min(index, MOST_COME - 1));
            if (arrived[place] == null) {
                arrived[place] = new Diagram();
            }
            return arrived[place];
        }

        void tell(int found, Film film) {
            int index = found;
            film.begin(at(lengths, found));
            for (int step = film.count - 1; step >= 0; step--) {
                film.setStep(step, at(rules, index), at(matches, index));
                index = at(parents, index);
            }
        }
    }
}
