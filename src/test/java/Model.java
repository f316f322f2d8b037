import java.util.ArrayList;
import java.util.Arrays;
import java.util.HashMap;
import java.util.LinkedHashMap;
import java.util.LinkedHashSet;
import java.util.List;
import java.util.Map;
import java.util.Set;

/**
 * A second telling of the document, for comparison. A query's whole course (what is paid, which rows
 * come, how it ends) is worked out when it is prepared, by terms that push their rows; step() only
 * walks along it.
 */
final class Model {
    private static final int LONGEST_COURSE = 40000;
    private static final int[] PAID = {};

    private interface Sink {
        /** Whether more rows are wanted. */
        boolean take(int[] row);
    }

    private static final class Wrong extends RuntimeException {
        private static final long serialVersionUID = 1;
        final int place;

        Wrong(int place) {
            this.place = place;
        }
    }

    private static final class Over extends RuntimeException {
        private static final long serialVersionUID = 1;
    }

    private static final class CourseIsLong extends RuntimeException {
        private static final long serialVersionUID = 1;
    }

    private static final class Node {
        int kind;
        int[] numbers;
        List<Node> parts = new ArrayList<>();
        int width;
    }

    private final List<Integer> widths = new ArrayList<>();
    private List<List<int[]>> tables = new ArrayList<>();
    private final Set<String> indexes = new LinkedHashSet<>();
    private final int[] atHand = new int[6];
    private List<List<int[]>> before = null;
    private int changed = 0;
    private List<Integer> words = new ArrayList<>();
    private int at = 0;
    private int place = -1;
    private List<int[]> course = null;
    private int courseAt = 0;
    private int ending = 0;
    private int[] last = {};
    private int cost = 0;

    private static void need(boolean is) {
        if (!is) {
            throw new IllegalArgumentException();
        }
    }

    private static void allow(boolean is) {
        if (!is) {
            throw new IllegalStateException();
        }
    }

    int table(int columns) {
        need(columns >= 1 && columns <= 6);
        allow(widths.size() < 6 && before == null);
        widths.add(columns);
        tables.add(new ArrayList<>());
        course = null;
        return widths.size() - 1;
    }

    private void needColumn(int table, int column) {
        need(table >= 0 && table < widths.size() && column >= 0 && column < widths.get(table));
    }

    void index(int table, int column) {
        needColumn(table, column);
        allow(before == null && indexes.add(table + "." + column));
        course = null;
    }

    void stage(int c, int v) {
        need(c >= 0 && c < 6);
        atHand[c] = v;
    }

    private void allowChanges(int more) {
        allow(before == null || changed + more <= 120);
        changed += more;
        course = null;
    }

    int insert(int table) {
        needColumn(table, 0);
        allow(tables.get(table).size() < 40);
        allowChanges(1);
        tables.get(table).add(Arrays.copyOf(atHand, widths.get(table)));
        return tables.get(table).size();
    }

    private int equalRows(int table, int column, int v) {
        return (int) tables.get(table).stream().filter(row -> row[column] == v).count();
    }

    int delete(int table, int column, int v) {
        needColumn(table, column);
        int found = equalRows(table, column, v);
        allowChanges(found);
        tables.get(table).removeIf(row -> row[column] == v);
        return found;
    }

    int change(int table, int columns, int v, int x) {
        need(columns >= 0);
        needColumn(table, columns / 8);
        needColumn(table, columns % 8);
        int found = equalRows(table, columns / 8, v);
        allowChanges(found);
        for (int[] row : tables.get(table)) {
            row[columns % 8] = row[columns / 8] == v ? x : row[columns % 8];
        }
        return found;
    }

    private static List<List<int[]>> copy(List<List<int[]>> tables) {
        List<List<int[]>> copies = new ArrayList<>();
        for (List<int[]> rows : tables) {
            List<int[]> copied = new ArrayList<>();
            rows.forEach(row -> copied.add(row.clone()));
            copies.add(copied);
        }
        return copies;
    }

    void begin() {
        allow(before == null);
        before = copy(tables);
        changed = 0;
        course = null;
    }

    int commit() {
        allow(before != null);
        before = null;
        course = null;
        return changed;
    }

    int rollback() {
        allow(before != null);
        tables = before;
        return commit();
    }

    int cell(int table, int k, int c) {
        needColumn(table, 0);
        if (k == -1) {
            return tables.get(table).size();
        }
        needColumn(table, c);
        need(k >= 0 && k < tables.get(table).size());
        return tables.get(table).get(k)[c];
    }

    int feed(int word) {
        allow(words.size() < 60);
        words.add(word);
        return words.size();
    }

    int prepare() {
        course = null;
        last = new int[0];
        cost = 0;
        place = -1;
        at = 0;
        Node root = null;
        try {
            root = term(1);
            if (at < words.size()) {
                throw new Wrong(at);
            }
        } catch (Wrong wrong) {
            place = wrong.place;
        }
        words = new ArrayList<>();
        need(place == -1);
        plan(root);
        return root.width;
    }

    int place() {
        return place;
    }

    private int number(int low, int high) {
        if (at >= words.size()) {
            throw new Wrong(words.size());
        }
        int word = words.get(at);
        if (word < low || word > high) {
            throw new Wrong(at);
        }
        at++;
        return word;
    }

    private int any() {
        return number(Integer.MIN_VALUE, Integer.MAX_VALUE);
    }

    private Node term(int level) {
        int kindAt = at;
        if (level > 10) {
            throw new Wrong(kindAt);
        }
        Node node = new Node();
        node.kind = number(0, 10);
        node.numbers = numbers(node.kind);
        int parts = node.kind == 0 ? 0 : node.kind >= 3 && node.kind <= 5 ? 2 : 1;
        for (int i = 0; i < parts; i++) {
            node.parts.add(term(level + 1));
        }
        List<Integer> asked = new ArrayList<>();
        for (int c : columnsOfFirst(node)) {
            asked.add(c >= 0 && c < node.parts.get(0).width ? 1 : 0);
        }
        boolean right = !asked.contains(0);
        if (node.kind == 4) {
            right &= node.numbers[1] >= 0 && node.numbers[1] < node.parts.get(1).width;
        }
        if (node.kind == 5) {
            right &= node.parts.get(0).width == node.parts.get(1).width;
        }
        node.width = width(node);
        if (!right || node.width > 12) {
            throw new Wrong(kindAt);
        }
        return node;
    }

    private int[] numbers(int kind) {
        switch (kind) {
            case 0: return new int[] {number(0, widths.size() - 1)};
            case 1: return new int[] {any(), number(0, 5), any()};
            case 2:
                int[] picks = new int[number(1, 8)];
                for (int i = 0; i < picks.length; i++) {
                    picks[i] = any();
                }
                return picks;
            case 4: return new int[] {any(), any()};
            case 7: return new int[] {any(), number(0, 1)};
            case 8: return new int[] {number(0, 100)};
            case 10: return new int[] {any(), number(0, 3), any()};
            default: return new int[0];
        }
    }

    private static int[] columnsOfFirst(Node node) {
        switch (node.kind) {
            case 1: case 4: case 7: return new int[] {node.numbers[0]};
            case 2: return node.numbers;
            case 10: return new int[] {node.numbers[0], node.numbers[2]};
            default: return new int[0];
        }
    }

    private int width(Node node) {
        switch (node.kind) {
            case 0: return widths.get(node.numbers[0]);
            case 2: return node.numbers.length;
            case 3: case 4: return node.parts.get(0).width + node.parts.get(1).width;
            case 9: return 1;
            case 10: return 2;
            default: return node.parts.get(0).width;
        }
    }

    private void plan(Node root) {
        course = new ArrayList<>();
        courseAt = 0;
        ending = 0;
        try {
            run(root, row -> {
                note(row);
                return true;
            });
        } catch (Over over) {
            ending = 3;
        } catch (CourseIsLong tooLong) {
            ending = -1;
        }
    }

    private void note(int[] event) {
        if (course.size() >= LONGEST_COURSE) {
            throw new CourseIsLong();
        }
        course.add(event);
    }

    private boolean pushTable(int table, int column, Integer v, Sink sink) {
        for (int[] row : tables.get(table)) {
            if (v == null || row[column] == v) {
                note(PAID);
                if (!sink.take(row)) {
                    return false;
                }
            }
        }
        return true;
    }

    /** Pushes the term's rows; whether the sink still wanted more at the end. */
    private boolean run(Node node, Sink sink) {
        int[] n = node.numbers;
        Node first = node.kind == 0 ? null : node.parts.get(0);
        switch (node.kind) {
            case 0: return pushTable(n[0], 0, null, sink);
            case 1:
                if (n[1] == 0 && first.kind == 0 && indexes.contains(first.numbers[0] + "." + n[0])) {
                    return pushTable(first.numbers[0], n[0], n[2], sink);
                }
                return run(first, row -> !isSo(Integer.compare(row[n[0]], n[2]), n[1]) || sink.take(row));
            case 2: return run(first, row -> sink.take(Arrays.stream(n).map(c -> row[c]).toArray()));
            case 3: case 4: return run(first, a -> run(node.parts.get(1), b ->
                node.kind == 4 && a[n[0]] != b[n[1]] || sink.take(joined(a, b))));
            case 5: return run(first, sink) && run(node.parts.get(1), sink);
            case 6:
                Set<String> given = new LinkedHashSet<>();
                return run(first, row -> !given.add(Arrays.toString(row)) || checked(given.size(), 150, row, sink));
            case 8: return limit(n[0], first, sink);
            default: return pushAll(gathered(node, first), sink);
        }
    }

    private static boolean checked(int kept, int most, int[] row, Sink sink) {
        if (kept > most) {
            throw new Over();
        }
        return sink.take(row);
    }

    private boolean limit(int most, Node first, Sink sink) {
        int[] left = {most};
        boolean[] wanted = {true};
        if (most > 0) {
            run(first, row -> {
                left[0]--;
                wanted[0] = sink.take(row);
                return wanted[0] && left[0] > 0;
            });
        }
        return wanted[0];
    }

    private static boolean pushAll(List<int[]> rows, Sink sink) {
        for (int[] row : rows) {
            if (!sink.take(row)) {
                return false;
            }
        }
        return true;
    }

    private List<int[]> gathered(Node node, Node first) {
        int[] n = node.numbers;
        List<int[]> rows = new ArrayList<>();
        Map<Integer, List<Integer>> groups = new LinkedHashMap<>();
        int[] count = {0};
        run(first, row -> {
            count[0]++;
            if (node.kind == 7) {
                rows.add(row.clone());
            } else if (node.kind == 10) {
                groups.computeIfAbsent(row[n[0]], value -> new ArrayList<>()).add(row[n[2]]);
            }
            return checked(rows.size(), 150, row, ignored -> true)
                && checked(groups.size(), 60, row, ignored -> true);
        });
        if (node.kind == 7) {
            rows.sort((a, b) -> n[1] == 0 ? Integer.compare(a[n[0]], b[n[0]]) : Integer.compare(b[n[0]], a[n[0]]));
        } else if (node.kind == 9) {
            rows.add(count);
        } else {
            groups.forEach((value, all) -> rows.add(new int[] {value, folded(all, n[1])}));
        }
        return rows;
    }

    private static int folded(List<Integer> all, int how) {
        switch (how) {
            case 0: return all.size();
            case 1: return all.stream().reduce(0, (a, b) -> a + b);
            case 2: return all.stream().reduce(Integer.MAX_VALUE, Math::min);
            default: return all.stream().reduce(Integer.MIN_VALUE, Math::max);
        }
    }

    private static boolean isSo(int order, int how) {
        switch (how) {
            case 0: return order == 0;
            case 1: return order != 0;
            case 2: return order < 0;
            case 3: return order <= 0;
            case 4: return order > 0;
            default: return order >= 0;
        }
    }

    private static int[] joined(int[] a, int[] b) {
        int[] both = Arrays.copyOf(a, a.length + b.length);
        System.arraycopy(b, 0, both, a.length, b.length);
        return both;
    }

    /** Whether the course that was worked out is long enough for so much more fuel. */
    boolean knows(int fuel) {
        return course == null || ending != -1 || courseAt + fuel + 20000 < course.size();
    }

    int step(int fuel) {
        need(fuel >= 1 && fuel <= 500);
        allow(course != null);
        int left = fuel;
        while (courseAt < course.size()) {
            int[] event = course.get(courseAt);
            if (event != PAID) {
                courseAt++;
                last = event.clone();
                return 1;
            }
            if (left == 0) {
                return 2;
            }
            left--;
            cost++;
            courseAt++;
        }
        course = null;
        return ending;
    }

    int column(int i) {
        return i >= 0 && i < last.length ? last[i] : 0;
    }

    int cost() {
        return cost;
    }

    /** For runs that want to tell right queries: how many tables there are, and how wide they are. */
    Map<Integer, Integer> shape() {
        Map<Integer, Integer> shape = new HashMap<>();
        for (int t = 0; t < widths.size(); t++) {
            shape.put(t, widths.get(t));
        }
        return shape;
    }
}
