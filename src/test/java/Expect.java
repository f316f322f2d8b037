import java.util.Arrays;

/** Counts the answers that are not the ones due, and makes desks quickly. */
final class Expect {
    interface Call {
        int answer();
    }

    interface Deed {
        void run();
    }

    private static int wrong = 0;
    private static int asked = 0;
    private static int edges = 0;
    private static String edge = "";

    private Expect() {
    }

    /** One boundary of the document; its name tells the promise's number and the boundary. */
    static void edge(String name, Deed test) {
        edges++;
        edge = name + ": ";
        try {
            test.run();
        } catch (RuntimeException e) {
            isWrong("a call", e.getClass().getSimpleName(), "no exception");
        }
        edge = "";
    }

    private static void isWrong(String what, String got, String due) {
        wrong++;
        System.out.println(edge + what + " answered " + got + ", due is " + due);
    }

    static void same(String what, long due, long got) {
        asked++;
        if (due != got) {
            isWrong(what, Long.toString(got), Long.toString(due));
        }
    }

    static void same(String what, String due, String got) {
        asked++;
        if (!due.equals(got)) {
            isWrong(what, got, due);
        }
    }

    static void argument(String what, Call call) {
        thrown(what, "IllegalArgumentException", call);
    }

    static void argument(String what, Deed deed) {
        thrown(what, "IllegalArgumentException", asCall(deed));
    }

    static void state(String what, Call call) {
        thrown(what, "IllegalStateException", call);
    }

    static void state(String what, Deed deed) {
        thrown(what, "IllegalStateException", asCall(deed));
    }

    static Call asCall(Deed deed) {
        return () -> {
            deed.run();
            return 0;
        };
    }

    private static void thrown(String what, String due, Call call) {
        same(what, due, answer(call));
    }

    /** What the call answers, or the name of what it throws. */
    static String answer(Call call) {
        try {
            return Integer.toString(call.answer());
        } catch (RuntimeException e) {
            return e.getClass().getSimpleName();
        }
    }

    /** A desk with a table of so many columns and these cells, row by row. */
    static RelationDesk desk(int columns, int... cells) {
        RelationDesk desk = new RelationDesk();
        put(desk, desk.table(columns), columns, cells);
        return desk;
    }

    /** A desk with empty tables of so many columns each. */
    static RelationDesk tables(int... columns) {
        RelationDesk desk = new RelationDesk();
        for (int of : columns) {
            desk.table(of);
        }
        return desk;
    }

    /** Puts the row at hand in so many times. */
    static void fill(RelationDesk desk, int table, int times) {
        for (int i = 0; i < times; i++) {
            desk.insert(table);
        }
    }

    static void put(RelationDesk desk, int table, int columns, int... cells) {
        for (int i = 0; i < cells.length; i++) {
            desk.stage(i % columns, cells[i]);
            if (i % columns == columns - 1) {
                desk.insert(table);
            }
        }
    }

    /** The numbers from one to another one, for tables of one column. */
    static int[] range(int from, int to) {
        int[] numbers = new int[to - from + 1];
        for (int i = 0; i < numbers.length; i++) {
            numbers[i] = from + i;
        }
        return numbers;
    }

    /** The first values on either side of what is taken, and the farthest ones. */
    static int[] outside(int least, int most) {
        return new int[] {least - 1, most + 1, Integer.MIN_VALUE, Integer.MAX_VALUE};
    }

    static void feed(RelationDesk desk, int... words) {
        for (int word : words) {
            desk.feed(word);
        }
    }

    static int prepare(RelationDesk desk, int... words) {
        feed(desk, words);
        return desk.prepare();
    }

    /** The words are a right query of so many columns. */
    static void right(RelationDesk desk, int columns, int... words) {
        String query = Arrays.toString(words);
        same("prepare() of " + query, Integer.toString(columns), answer(() -> prepare(desk, words)));
        same("place() of " + query, -1, desk.place());
    }

    /** The words are wrong at that place, and no query is prepared then. */
    static void wrong(RelationDesk desk, int place, int... words) {
        String query = Arrays.toString(words);
        argument("prepare() of " + query, () -> prepare(desk, words));
        same("place() of " + query, place, desk.place());
        state("step(1) behind " + query, () -> desk.step(1));
    }

    /** The same words but for one. */
    static int[] with(int[] words, int at, int word) {
        int[] changed = words.clone();
        changed[at] = word;
        return changed;
    }

    /** The table's rows are these, cell by cell. */
    static void holds(String what, RelationDesk desk, int table, int columns, int... cells) {
        same(what + ": rows", cells.length / columns, desk.cell(table, -1, 0));
        for (int i = 0; i < cells.length && i / columns < desk.cell(table, -1, 0); i++) {
            same(what + ": cell " + i, cells[i], desk.cell(table, i / columns, i % columns));
        }
    }

    /** The query gives these rows, cell by cell, then ends, and has cost so much. */
    static void gives(String what, RelationDesk desk, int[] words, int columns, int cost, int... cells) {
        same(what + ": columns", columns, prepare(desk, words));
        for (int i = 0; i < cells.length; i++) {
            if (i % columns == 0) {
                same(what + ": step for row " + i / columns, 1, desk.step(500));
            }
            same(what + ": cell " + i, cells[i], desk.column(i % columns));
        }
        same(what + ": the end", 0, desk.step(500));
        same(what + ": cost", cost, desk.cost());
        state(what + ": step behind the end", () -> desk.step(500));
    }

    static int[] words(int... words) {
        return words;
    }

    static void finish(String test) {
        String named = edges == 0 ? "" : edges + " boundaries, ";
        System.out.println(test + ": " + named + asked + " answers, " + wrong + " not as due");
        if (wrong != 0) {
            System.exit(1);
        }
    }
}
