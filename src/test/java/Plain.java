import java.util.ArrayList;
import java.util.Arrays;
import java.util.HashSet;
import java.util.List;
import java.util.NoSuchElementException;
import java.util.Set;
import java.util.TreeMap;

/**
 * The document once more, in the plainest form: all values are tried, all ways of putting boxes to
 * boxes are gone through. It shares no thought with Stringdrawer on purpose, and is slow.
 */
final class Plain {
    static final String KINDS = "cdazmusn0123456";
    static final String TURNED = "musncdaz?145236";

    static final class D {
        int ins;
        int outs;
        final List<Character> kinds = new ArrayList<>();
        final TreeMap<Integer, Integer> from = new TreeMap<>();
        List<int[]> matrix;

        int arityIn(int box) {
            return Plain.arityIn(kinds.get(box));
        }

        Integer targetOf(int source) {
            for (var wire : from.entrySet()) {
                if (wire.getValue() == source) {
                    return wire.getKey();
                }
            }
            return null;
        }
    }

    record Step(int rule, int match) {
    }

    private final List<D> all = new ArrayList<>();
    private final List<D[]> rules = new ArrayList<>();
    private final List<Integer> row = new ArrayList<>();
    private List<Step> film = new ArrayList<>();

    static int arityIn(char kind) {
        return switch (kind) {
            case 'a', 'm' -> 2;
            case 'z', 'u' -> 0;
            default -> 1;
        };
    }

    static int arityOut(char kind) {
        return switch (kind) {
            case 'c', 's' -> 2;
            case 'd', 'n' -> 0;
            default -> 1;
        };
    }

    private D at(int number) {
        if (number < 0 || number >= all.size()) {
            throw new IndexOutOfBoundsException();
        }
        return all.get(number);
    }

    private D[] ruleAt(int number) {
        if (number < 0 || number >= rules.size()) {
            throw new IndexOutOfBoundsException();
        }
        return rules.get(number);
    }

    private int keep(D d) {
        if (all.size() == 60) {
            throw new IllegalStateException();
        }
        all.add(d);
        return all.size() - 1;
    }

    int box(char kind) {
        if (KINDS.indexOf(kind) < 0) {
            throw new IllegalArgumentException();
        }
        D d = new D();
        d.ins = arityIn(kind);
        d.outs = arityOut(kind);
        d.kinds.add(kind);
        for (int i = 0; i < d.ins; i++) {
            d.from.put(i, -1 - i);
        }
        for (int i = 0; i < d.outs; i++) {
            d.from.put(-1 - i, i);
        }
        return keep(d);
    }

    int wires(int many) {
        if (many < 0 || many > 6) {
            throw new IllegalArgumentException();
        }
        D d = new D();
        d.ins = many;
        d.outs = many;
        for (int i = 0; i < many; i++) {
            d.from.put(-1 - i, -1 - i);
        }
        return keep(d);
    }

    int crossing(int first, int second) {
        if (first < 0 || second < 0 || first > 6 || second > 6 || first + second > 6) {
            throw new IllegalArgumentException();
        }
        D d = new D();
        d.ins = first + second;
        d.outs = first + second;
        int output = 0;
        for (int i = 0; i < second; i++) {
            d.from.put(-1 - output++, -1 - (first + i));
        }
        for (int i = 0; i < first; i++) {
            d.from.put(-1 - output++, -1 - i);
        }
        return keep(d);
    }

    int then(int first, int second) {
        D a = at(first);
        D b = at(second);
        if (a.outs != b.ins || a.kinds.size() + b.kinds.size() > 24) {
            throw new UnsupportedOperationException();
        }
        D d = new D();
        d.ins = a.ins;
        d.outs = b.outs;
        d.kinds.addAll(a.kinds);
        d.kinds.addAll(b.kinds);
        int shift = 2 * a.kinds.size();
        for (var wire : a.from.entrySet()) {
            if (wire.getKey() >= 0) {
                d.from.put(wire.getKey(), wire.getValue());
            }
        }
        for (var wire : b.from.entrySet()) {
            int target = wire.getKey() < 0 ? wire.getKey() : wire.getKey() + shift;
            int source = wire.getValue();
            d.from.put(target, source >= 0 ? source + shift : a.from.get(source));
        }
        return keep(d);
    }

    int beside(int first, int second) {
        D a = at(first);
        D b = at(second);
        if (a.ins + b.ins > 6 || a.outs + b.outs > 6 || a.kinds.size() + b.kinds.size() > 24) {
            throw new UnsupportedOperationException();
        }
        D d = new D();
        d.ins = a.ins + b.ins;
        d.outs = a.outs + b.outs;
        d.kinds.addAll(a.kinds);
        d.kinds.addAll(b.kinds);
        d.from.putAll(a.from);
        int shift = 2 * a.kinds.size();
        for (var wire : b.from.entrySet()) {
            int target = wire.getKey() < 0 ? wire.getKey() - a.outs : wire.getKey() + shift;
            int source = wire.getValue() < 0 ? wire.getValue() - a.ins : wire.getValue() + shift;
            d.from.put(target, source);
        }
        return keep(d);
    }

    int turn(int diagram) {
        D a = at(diagram);
        if (a.kinds.contains('0')) {
            throw new UnsupportedOperationException();
        }
        D d = new D();
        d.ins = a.outs;
        d.outs = a.ins;
        for (char kind : a.kinds) {
            d.kinds.add(TURNED.charAt(KINDS.indexOf(kind)));
        }
        for (var wire : a.from.entrySet()) {
            d.from.put(wire.getValue(), wire.getKey());
        }
        return keep(d);
    }

    int inputs(int diagram) {
        return at(diagram).ins;
    }

    int outputs(int diagram) {
        return at(diagram).outs;
    }

    int boxes(int diagram) {
        return at(diagram).kinds.size();
    }

    char kindAt(int diagram, int box) {
        D d = at(diagram);
        if (box < 0 || box >= d.kinds.size()) {
            throw new IndexOutOfBoundsException();
        }
        return d.kinds.get(box);
    }

    int source(int diagram, int box, int place) {
        D d = at(diagram);
        if (box < -1 || box >= d.kinds.size()) {
            throw new IndexOutOfBoundsException();
        }
        if (place < 0 || place >= (box == -1 ? d.outs : d.arityIn(box))) {
            throw new NoSuchElementException();
        }
        return d.from.get(box == -1 ? -1 - place : 2 * box + place);
    }

    int depth(int diagram) {
        D d = at(diagram);
        int deepest = 0;
        for (int box = 0; box < d.kinds.size(); box++) {
            deepest = Math.max(deepest, depthOf(d, box));
        }
        return deepest;
    }

    private int depthOf(D d, int box) {
        int deepest = 0;
        for (int place = 0; place < d.arityIn(box); place++) {
            int source = d.from.get(2 * box + place);
            deepest = source < 0 ? deepest : Math.max(deepest, depthOf(d, source / 2));
        }
        return deepest + 1;
    }

    boolean areAlike(int first, int second) {
        D a = at(first);
        D b = at(second);
        return alike(a, b);
    }

    static boolean alike(D a, D b) {
        if (a.ins != b.ins || a.outs != b.outs || a.kinds.size() != b.kinds.size()) {
            return false;
        }
        return pair(a, b, new ArrayList<>());
    }

    private static boolean pair(D a, D b, List<Integer> images) {
        if (!wiresAgree(a, b, images)) {
            return false;
        }
        if (images.size() == a.kinds.size()) {
            return true;
        }
        for (int spot = 0; spot < b.kinds.size(); spot++) {
            if (!images.contains(spot) && a.kinds.get(images.size()).equals(b.kinds.get(spot))) {
                images.add(spot);
                if (pair(a, b, images)) {
                    return true;
                }
                images.remove(images.size() - 1);
            }
        }
        return false;
    }

    /** Compares all wires both of whose ends are an edge or a box that has an image already. */
    private static boolean wiresAgree(D a, D b, List<Integer> images) {
        for (var wire : a.from.entrySet()) {
            Integer target = moved(wire.getKey(), images);
            Integer source = moved(wire.getValue(), images);
            if (target != null && source != null && !source.equals(b.from.get(target))) {
                return false;
            }
        }
        return true;
    }

    private static Integer moved(int code, List<Integer> images) {
        if (code < 0) {
            return code;
        }
        return code / 2 < images.size() ? (Integer) (2 * images.get(code / 2) + code % 2) : null;
    }

    // ---- meaning

    static List<int[]> matrix(D d) {
        if (d.matrix == null) {
            int free = d.ins;
            for (char kind : d.kinds) {
                free += kind == 'u' || kind == 's' ? 1 : 0;
            }
            d.matrix = echelon(free <= 4 ? tried(d) : solved(d), d.ins + d.outs);
        }
        return d.matrix;
    }

    /** Tries all values of the wires, and keeps the rows at the edges. */
    private static List<int[]> tried(D d) {
        List<Integer> order = new ArrayList<>();
        while (order.size() < d.kinds.size()) {
            for (int box = 0; box < d.kinds.size(); box++) {
                boolean ready = !order.contains(box);
                for (int place = 0; place < d.arityIn(box); place++) {
                    int source = d.from.get(2 * box + place);
                    ready &= source < 0 || order.contains(source / 2);
                }
                if (ready) {
                    order.add(box);
                }
            }
        }
        Set<String> seen = new HashSet<>();
        List<int[]> rows = new ArrayList<>();
        int[] values = new int[60];
        int many = (int) Math.pow(7, d.ins);
        for (int number = 0; number < many; number++) {
            int rest = number;
            for (int input = 0; input < d.ins; input++) {
                values[50 + input] = rest % 7;
                rest /= 7;
            }
            tryBox(d, order, 0, values, seen, rows);
        }
        return rows;
    }

    private static int wire(int source) {
        return source < 0 ? 49 - source : source;
    }

    private static void tryBox(D d, List<Integer> order, int index, int[] v, Set<String> seen,
            List<int[]> rows) {
        if (index == order.size()) {
            int[] row = new int[d.ins + d.outs];
            for (int i = 0; i < d.ins; i++) {
                row[i] = v[50 + i];
            }
            for (int j = 0; j < d.outs; j++) {
                row[d.ins + j] = v[wire(d.from.get(-1 - j))];
            }
            if (seen.add(Arrays.toString(row))) {
                rows.add(row);
            }
            return;
        }
        int box = order.get(index);
        char kind = d.kinds.get(box);
        int one = arityIn(kind) > 0 ? v[wire(d.from.get(2 * box))] : 0;
        int two = arityIn(kind) > 1 ? v[wire(d.from.get(2 * box + 1))] : 0;
        for (int x = 0; x < (arityOut(kind) > 0 ? 7 : 1); x++) {
            for (int y = 0; y < (arityOut(kind) > 1 ? 7 : 1); y++) {
                boolean good = switch (kind) {
                    case 'c' -> x == one && y == one;
                    case 'm' -> one == two && x == one;
                    case 'a' -> x == (one + two) % 7;
                    case 's' -> one == (x + y) % 7;
                    case 'z' -> x == 0;
                    case 'n' -> one == 0;
                    case 'd', 'u' -> true;
                    default -> x == one * (kind - '0') % 7;
                };
                if (good) {
                    v[2 * box] = x;
                    v[2 * box + 1] = y;
                    tryBox(d, order, index + 1, v, seen, rows);
                }
            }
        }
    }

    /** Solves the conditions of all wires for a basis, and keeps its rows at the edges. */
    private static List<int[]> solved(D d) {
        List<int[]> conditions = new ArrayList<>();
        for (int box = 0; box < d.kinds.size(); box++) {
            char kind = d.kinds.get(box);
            int one = arityIn(kind) > 0 ? wire(d.from.get(2 * box)) : 59;
            int two = arityIn(kind) > 1 ? wire(d.from.get(2 * box + 1)) : 59;
            int x = 2 * box;
            int y = 2 * box + 1;
            switch (kind) {
                case 'c' -> {
                    conditions.add(condition(one, 1, x, 6, 59, 0));
                    conditions.add(condition(one, 1, y, 6, 59, 0));
                }
                case 'm' -> {
                    conditions.add(condition(one, 1, two, 6, 59, 0));
                    conditions.add(condition(one, 1, x, 6, 59, 0));
                }
                case 'a' -> conditions.add(condition(one, 1, two, 1, x, 6));
                case 's' -> conditions.add(condition(x, 1, y, 1, one, 6));
                case 'z' -> conditions.add(condition(x, 1, 59, 0, 59, 0));
                case 'n' -> conditions.add(condition(one, 1, 59, 0, 59, 0));
                case 'd', 'u' -> { }
                default -> conditions.add(condition(one, kind - '0', x, 6, 59, 0));
            }
        }
        List<int[]> reduced = echelon(conditions, 60);
        List<int[]> rows = new ArrayList<>();
        for (int wire = 0; wire < 59; wire++) {
            int[] solution = new int[60];
            solution[wire] = 1;
            boolean free = true;
            for (int[] condition : reduced) {
                int lead = lead(condition);
                free &= lead != wire;
                if (lead != wire) {
                    solution[lead] = (7 - condition[wire]) % 7;
                }
            }
            if (free) {
                int[] row = new int[d.ins + d.outs];
                for (int i = 0; i < d.ins; i++) {
                    row[i] = solution[50 + i];
                }
                for (int j = 0; j < d.outs; j++) {
                    row[d.ins + j] = solution[wire(d.from.get(-1 - j))];
                }
                rows.add(row);
            }
        }
        return rows;
    }

    private static int[] condition(int a, int x, int b, int y, int c, int z) {
        int[] row = new int[60];
        row[a] += x;
        row[b] += y;
        row[c] += z;
        return row;
    }

    private static int lead(int[] row) {
        int lead = 0;
        while (row[lead] == 0) {
            lead++;
        }
        return lead;
    }

    /** Takes the rows in one by one, each made less by those that are there. */
    private static List<int[]> echelon(List<int[]> rows, int width) {
        List<int[]> basis = new ArrayList<>();
        for (int[] given : rows) {
            int[] row = given.clone();
            for (int[] other : basis) {
                subtract(row, other, row[lead(other)]);
            }
            int first = 0;
            while (first < width && row[first] == 0) {
                first++;
            }
            if (first < width) {
                int factor = 1;
                while (factor * row[first] % 7 != 1) {
                    factor++;
                }
                for (int c = 0; c < width; c++) {
                    row[c] = row[c] * factor % 7;
                }
                for (int[] other : basis) {
                    subtract(other, row, other[first]);
                }
                basis.add(row);
            }
        }
        basis.sort((a, b) -> lead(a) - lead(b));
        return basis;
    }

    private static void subtract(int[] row, int[] other, int times) {
        for (int c = 0; c < row.length; c++) {
            row[c] = Math.floorMod(row[c] - times * other[c], 7);
        }
    }

    private static boolean within(List<int[]> basis, int[] row) {
        List<int[]> more = new ArrayList<>(basis);
        more.add(row);
        return echelon(more, row.length).size() == basis.size();
    }

    private static boolean sameMeaning(D a, D b) {
        if (a.ins != b.ins || a.outs != b.outs || matrix(a).size() != matrix(b).size()) {
            return false;
        }
        for (int r = 0; r < matrix(a).size(); r++) {
            if (!Arrays.equals(matrix(a).get(r), matrix(b).get(r))) {
                return false;
            }
        }
        return true;
    }

    int rank(int diagram) {
        return matrix(at(diagram)).size();
    }

    int entry(int diagram, int row, int column) {
        D d = at(diagram);
        if (row < 0 || row >= matrix(d).size() || column < 0 || column >= d.ins + d.outs) {
            throw new NoSuchElementException();
        }
        return matrix(d).get(row)[column];
    }

    boolean areEqual(int first, int second) {
        D a = at(first);
        D b = at(second);
        return sameMeaning(a, b);
    }

    int apart(int first, int second, int column) {
        D a = at(first);
        D b = at(second);
        if (a.ins != b.ins || a.outs != b.outs) {
            throw new UnsupportedOperationException();
        }
        if (column < 0 || column >= a.ins + a.outs) {
            throw new NoSuchElementException();
        }
        for (int[] row : matrix(a)) {
            if (!within(matrix(b), row)) {
                return row[column];
            }
        }
        for (int[] row : matrix(b)) {
            if (!within(matrix(a), row)) {
                return row[column];
            }
        }
        throw new NoSuchElementException();
    }

    boolean isFunction(int diagram) {
        return function(at(diagram));
    }

    /** For each row of inputs there is one if the inputs alone span all, and just one if no row
     * has inputs 0 and outputs that are not. */
    private static boolean function(D d) {
        List<int[]> inputs = new ArrayList<>();
        boolean single = true;
        for (int[] row : matrix(d)) {
            inputs.add(Arrays.copyOf(row, d.ins));
            single &= lead(row) < d.ins;
        }
        return single && echelon(inputs, d.ins).size() == d.ins;
    }

    int type(int value) {
        if (value < 0 || value > 6) {
            throw new IllegalArgumentException();
        }
        if (row.size() == 12) {
            throw new IllegalStateException();
        }
        row.add(value);
        return row.size();
    }

    int erase() {
        int were = row.size();
        row.clear();
        return were;
    }

    int value(int diagram, int output) {
        D d = at(diagram);
        if (output < 0 || output >= d.outs) {
            throw new IndexOutOfBoundsException();
        }
        if (!function(d) || row.size() != d.ins) {
            throw new UnsupportedOperationException();
        }
        for (int value = 0; value < 7; value++) {
            List<int[]> shown = new ArrayList<>();
            for (int[] line : matrix(d)) {
                int[] part = Arrays.copyOf(line, d.ins + 1);
                part[d.ins] = line[d.ins + output];
                shown.add(part);
            }
            int[] wanted = new int[d.ins + 1];
            for (int i = 0; i < d.ins; i++) {
                wanted[i] = row.get(i);
            }
            wanted[d.ins] = value;
            if (within(echelon(shown, d.ins + 1), wanted)) {
                return value;
            }
        }
        throw new AssertionError();
    }

    boolean holds(int diagram) {
        D d = at(diagram);
        if (row.size() != d.ins + d.outs) {
            throw new UnsupportedOperationException();
        }
        return within(matrix(d), row.stream().mapToInt(x -> x).toArray());
    }

    // ---- rules

    int rule(int left, int right) {
        D a = at(left);
        D b = at(right);
        boolean straight = false;
        for (var wire : a.from.entrySet()) {
            straight |= wire.getKey() < 0 && wire.getValue() < 0;
        }
        if (a.ins != b.ins || a.outs != b.outs || a.kinds.isEmpty() || straight) {
            throw new UnsupportedOperationException();
        }
        if (rules.size() == 20) {
            throw new IllegalStateException();
        }
        rules.add(new D[] {a, b});
        return rules.size() - 1;
    }

    boolean isTrue(int rule) {
        D[] r = ruleAt(rule);
        return sameMeaning(r[0], r[1]);
    }

    /** All matches, broken or not, in the order of their images. */
    private static void findAll(D d, D left, List<Integer> images, List<List<Integer>> found) {
        if (images.size() == left.kinds.size()) {
            found.add(new ArrayList<>(images));
            return;
        }
        for (int spot = 0; spot < d.kinds.size(); spot++) {
            if (!images.contains(spot) && left.kinds.get(images.size()).equals(d.kinds.get(spot))) {
                images.add(spot);
                if (inside(d, left, images)) {
                    findAll(d, left, images, found);
                }
                images.remove(images.size() - 1);
            }
        }
    }

    private static boolean inside(D d, D left, List<Integer> images) {
        for (var wire : left.from.entrySet()) {
            int target = wire.getKey();
            int source = wire.getValue();
            if (target >= 0 && source >= 0 && target / 2 < images.size()
                    && source / 2 < images.size()) {
                Integer there = d.from.get(2 * images.get(target / 2) + target % 2);
                if (there != 2 * images.get(source / 2) + source % 2) {
                    return false;
                }
            }
        }
        return true;
    }

    private static boolean isBroken(D d, D left, List<Integer> images) {
        for (int box = 0; box < images.size(); box++) {
            for (int port = 0; port < arityOut(left.kinds.get(box)); port++) {
                int end = left.targetOf(2 * box + port);
                Integer there = d.targetOf(2 * images.get(box) + port);
                if (end < 0 && there >= 0 && leadsBack(d, there / 2, images)) {
                    return true;
                }
            }
        }
        return false;
    }

    private static boolean leadsBack(D d, int box, List<Integer> images) {
        if (images.contains(box)) {
            return true;
        }
        for (int port = 0; port < arityOut(d.kinds.get(box)); port++) {
            int target = d.targetOf(2 * box + port);
            if (target >= 0 && leadsBack(d, target / 2, images)) {
                return true;
            }
        }
        return false;
    }

    private static List<List<Integer>> unbroken(D d, D[] rule) {
        List<List<Integer>> found = new ArrayList<>();
        findAll(d, rule[0], new ArrayList<>(), found);
        found.removeIf(images -> isBroken(d, rule[0], images));
        return found;
    }

    int matches(int diagram, int rule) {
        D d = at(diagram);
        return unbroken(d, ruleAt(rule)).size();
    }

    int broken(int diagram, int rule) {
        D d = at(diagram);
        D[] r = ruleAt(rule);
        List<List<Integer>> found = new ArrayList<>();
        findAll(d, r[0], new ArrayList<>(), found);
        return found.size() - unbroken(d, r).size();
    }

    int image(int diagram, int rule, int match, int box) {
        D d = at(diagram);
        D[] r = ruleAt(rule);
        if (box < 0 || box >= r[0].kinds.size()) {
            throw new IndexOutOfBoundsException();
        }
        List<List<Integer>> found = unbroken(d, r);
        if (match < 0 || match >= found.size()) {
            throw new NoSuchElementException();
        }
        return found.get(match).get(box);
    }

    /** Wires are followed from their ends back, through images and the right diagram. */
    private static D rewritten(D d, D[] rule, List<Integer> images) {
        D made = new D();
        made.ins = d.ins;
        made.outs = d.outs;
        List<Integer> kept = new ArrayList<>();
        for (int box = 0; box < d.kinds.size(); box++) {
            if (!images.contains(box)) {
                kept.add(box);
                made.kinds.add(d.kinds.get(box));
            }
        }
        made.kinds.addAll(rule[1].kinds);
        int shift = 2 * kept.size();
        for (var wire : d.from.entrySet()) {
            int target = wire.getKey();
            if (target < 0 || kept.contains(target / 2)) {
                int now = target < 0 ? target : 2 * kept.indexOf(target / 2) + target % 2;
                made.from.put(now, back(d, rule, images, kept, wire.getValue()));
            }
        }
        for (var wire : rule[1].from.entrySet()) {
            if (wire.getKey() >= 0) {
                int source = wire.getValue();
                made.from.put(wire.getKey() + shift, source >= 0 ? source + shift
                        : entering(d, rule, images, kept, source));
            }
        }
        return made;
    }

    private static int back(D d, D[] rule, List<Integer> images, List<Integer> kept, int source) {
        if (source < 0) {
            return source;
        }
        if (kept.contains(source / 2)) {
            return 2 * kept.indexOf(source / 2) + source % 2;
        }
        int box = images.indexOf(source / 2);
        int output = rule[0].targetOf(2 * box + source % 2);
        int inside = rule[1].from.get(output);
        return inside >= 0 ? inside + 2 * kept.size() : entering(d, rule, images, kept, inside);
    }

    private static int entering(D d, D[] rule, List<Integer> images, List<Integer> kept,
            int input) {
        int target = rule[0].targetOf(input);
        int source = d.from.get(2 * images.get(target / 2) + target % 2);
        return back(d, rule, images, kept, source);
    }

    private static boolean large(D d, D[] rule) {
        return d.kinds.size() - rule[0].kinds.size() + rule[1].kinds.size() > 24;
    }

    int rewrite(int diagram, int rule, int match) {
        D d = at(diagram);
        D[] r = ruleAt(rule);
        List<List<Integer>> found = unbroken(d, r);
        if (match < 0 || match >= found.size()) {
            throw new NoSuchElementException();
        }
        if (large(d, r)) {
            throw new UnsupportedOperationException();
        }
        return keep(rewritten(d, r, found.get(match)));
    }

    private static D copy(D d) {
        D copy = new D();
        copy.ins = d.ins;
        copy.outs = d.outs;
        copy.kinds.addAll(d.kinds);
        copy.from.putAll(d.from);
        return copy;
    }

    int simplify(int diagram, int most) {
        D d = copy(at(diagram));
        if (most < 1 || most > 30) {
            throw new IllegalArgumentException();
        }
        List<Step> steps = new ArrayList<>();
        boolean more = true;
        while (more && steps.size() < most) {
            more = false;
            for (int rule = 0; rule < rules.size() && !more; rule++) {
                List<List<Integer>> found = unbroken(d, rules.get(rule));
                if (!found.isEmpty()) {
                    more = true;
                    if (large(d, rules.get(rule))) {
                        throw new UnsupportedOperationException();
                    }
                    d = rewritten(d, rules.get(rule), found.get(0));
                    steps.add(new Step(rule, 0));
                }
            }
        }
        int number = keep(d);
        film = steps;
        return number;
    }

    record Come(D d, List<Step> steps) {
    }

    int reach(int first, int second, int most) {
        D start = at(first);
        D goal = at(second);
        if (most < 0 || most > 4) {
            throw new IllegalArgumentException();
        }
        List<Step> found = search(start, goal, most);
        if (found == null) {
            throw new NoSuchElementException();
        }
        film = found;
        return film.size();
    }

    private List<Step> search(D start, D goal, int most) {
        for (Come come : coming(start, goal, most, 200)) {
            if (alike(come.d, goal)) {
                return come.steps;
            }
        }
        return null;
    }

    /** The films that lead to the diagrams that come from one, of which the first ones differ. */
    List<List<Step>> films(int first, int most, int many) {
        List<List<Step>> films = new ArrayList<>();
        for (Come come : coming(at(first), null, most, many)) {
            films.add(come.steps);
        }
        return films;
    }

    /** All that come, in their order, up to the goal or up to so many. */
    private List<Come> coming(D start, D goal, int most, int many) {
        List<Come> all = new ArrayList<>();
        all.add(new Come(start, new ArrayList<>()));
        for (int index = 0; index < all.size(); index++) {
            Come come = all.get(index);
            for (int rule = 0; rule < rules.size() && come.steps.size() < most; rule++) {
                D[] r = rules.get(rule);
                List<List<Integer>> found =
                        large(come.d, r) ? new ArrayList<>() : unbroken(come.d, r);
                for (int match = 0; match < found.size(); match++) {
                    if (all.size() == many || goal != null
                            && alike(all.get(all.size() - 1).d, goal)) {
                        return all;
                    }
                    D next = rewritten(come.d, r, found.get(match));
                    if (all.stream().noneMatch(other -> alike(other.d, next))) {
                        List<Step> steps = new ArrayList<>(come.steps);
                        steps.add(new Step(rule, match));
                        all.add(new Come(next, steps));
                    }
                }
            }
        }
        return all;
    }

    int steps() {
        return film.size();
    }

    int ruleOf(int step) {
        if (step < 0 || step >= film.size()) {
            throw new NoSuchElementException();
        }
        return film.get(step).rule;
    }

    int matchOf(int step) {
        if (step < 0 || step >= film.size()) {
            throw new NoSuchElementException();
        }
        return film.get(step).match;
    }

    int show(int diagram) {
        D d = copy(at(diagram));
        for (Step step : film) {
            List<List<Integer>> found = unbroken(d, rules.get(step.rule));
            if (step.match >= found.size()) {
                throw new NoSuchElementException();
            }
            if (large(d, rules.get(step.rule))) {
                throw new UnsupportedOperationException();
            }
            d = rewritten(d, rules.get(step.rule), found.get(step.match));
        }
        return keep(d);
    }

    int diagrams() {
        return all.size();
    }

    int rules() {
        return rules.size();
    }

    long allBoxes() {
        return all.stream().mapToLong(d -> d.kinds.size()).sum();
    }

    float trueShare() {
        if (rules.isEmpty()) {
            throw new ArithmeticException();
        }
        float holding = 0;
        for (D[] r : rules) {
            holding += sameMeaning(r[0], r[1]) ? 1 : 0;
        }
        return holding / rules.size();
    }

    double meanRank() {
        if (all.isEmpty()) {
            throw new ArithmeticException();
        }
        double sum = 0;
        for (D d : all) {
            sum += matrix(d).size();
        }
        return sum / all.size();
    }

    boolean isSound() {
        return true;
    }
}
