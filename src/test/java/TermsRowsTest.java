/** Promise 15, and the document's words on which rows each kind of term gives: none, one, all, and the farthest ints. */
public final class TermsRowsTest {
    private static final int LEAST = Integer.MIN_VALUE;
    private static final int GREATEST = Integer.MAX_VALUE;

    public static void main(String[] args) {
        scan();
        select();
        project();
        crossAndJoin();
        union();
        distinct();
        sort();
        limit();
        count();
        group();
        groupWraps();
        Expect.finish("TermsRowsTest");
    }

    /** The query gives these rows, all together, whatever they cost. */
    private static void gives(RelationDesk desk, int[] words, int columns, int... cells) {
        Expect.same("columns", columns, Expect.prepare(desk, words));
        for (int i = 0; i < cells.length; i++) {
            if (i % columns == 0) {
                Expect.same("step for row " + i / columns, 1, desk.step(500));
            }
            Expect.same("column " + i % columns + " of row " + i / columns, cells[i], desk.column(i % columns));
        }
        Expect.same("the end", 0, desk.step(500));
    }

    private static void scan() {
        Expect.edge("promise 15, SCAN of no rows: none", () -> gives(Expect.tables(1), Expect.words(0, 0), 1));
        Expect.edge("promise 15, SCAN of 40 rows: all, in the order in which they came in", () ->
            gives(Expect.desk(1, Expect.range(1, 40)), Expect.words(0, 0), 1, Expect.range(1, 40)));
        Expect.edge("promise 15, SCAN of the sixth table, of six columns: its own rows", () -> {
            RelationDesk desk = Expect.tables(1, 1, 1, 1, 1, 6);
            Expect.put(desk, 0, 1, 9);
            Expect.put(desk, 5, 6, 1, 2, 3, 4, 5, 6);
            gives(desk, Expect.words(0, 5), 6, 1, 2, 3, 4, 5, 6);
        });
    }

    private static void compared(int o, String name, int v, int... due) {
        Expect.edge("promise 15, SELECT " + name + " " + v + " of the least int, -1, 0, 1, the greatest int", () -> {
            RelationDesk desk = Expect.desk(1, LEAST, -1, 0, 1, GREATEST);
            gives(desk, Expect.words(1, 0, o, v, 0, 0), 1, due);
            desk.index(0, 0);
            gives(desk, Expect.words(1, 0, o, v, 0, 0), 1, due);
        });
    }

    private static void select() {
        compared(0, "equal to", 0, 0);
        compared(0, "equal to", LEAST, LEAST);
        compared(0, "equal to", GREATEST, GREATEST);
        compared(0, "equal to", 2);
        compared(1, "not equal to", 0, LEAST, -1, 1, GREATEST);
        compared(1, "not equal to", LEAST, -1, 0, 1, GREATEST);
        compared(1, "not equal to", GREATEST, LEAST, -1, 0, 1);
        compared(1, "not equal to", 2, LEAST, -1, 0, 1, GREATEST);
        compared(2, "less than", 0, LEAST, -1);
        compared(2, "less than", 1, LEAST, -1, 0);
        compared(2, "less than", LEAST);
        compared(2, "less than", GREATEST, LEAST, -1, 0, 1);
        compared(3, "not above", 0, LEAST, -1, 0);
        compared(3, "not above", LEAST, LEAST);
        compared(3, "not above", GREATEST, LEAST, -1, 0, 1, GREATEST);
        compared(4, "greater than", 0, 1, GREATEST);
        compared(4, "greater than", -1, 0, 1, GREATEST);
        compared(4, "greater than", LEAST, -1, 0, 1, GREATEST);
        compared(4, "greater than", GREATEST);
        compared(5, "not below", 0, 0, 1, GREATEST);
        compared(5, "not below", LEAST, LEAST, -1, 0, 1, GREATEST);
        compared(5, "not below", GREATEST, GREATEST);
        Expect.edge("promise 15, SELECT of no rows: none", () ->
            gives(Expect.tables(1), Expect.words(1, 0, 0, 0, 0, 0), 1));
        Expect.edge("promise 15, SELECT by the first and by the last column: whole rows", () -> {
            RelationDesk desk = Expect.desk(3, 1, 2, 3, 3, 2, 1);
            gives(desk, Expect.words(1, 0, 0, 3, 0, 0), 3, 3, 2, 1);
            gives(desk, Expect.words(1, 2, 0, 3, 0, 0), 3, 1, 2, 3);
        });
    }

    private static void project() {
        Expect.edge("promise 15, PROJECT of 1 column: the last one alone", () ->
            gives(Expect.desk(3, 1, 2, 3, 4, 5, 6), Expect.words(2, 1, 2, 0, 0), 1, 3, 6));
        Expect.edge("promise 15, PROJECT of 8 columns: in their order, some more than once", () ->
            gives(Expect.desk(3, 1, 2, 3), Expect.words(2, 8, 2, 1, 0, 0, 1, 2, 2, 0, 0, 0), 8, 3, 2, 1, 1, 2, 3, 3, 1));
        Expect.edge("promise 15, PROJECT of the twelfth column", () ->
            gives(Expect.desk(6, 1, 2, 3, 4, 5, 6), Expect.words(2, 2, 11, 0, 3, 0, 0, 0, 0), 2, 6, 1));
        Expect.edge("promise 15, PROJECT of no rows: none", () ->
            gives(Expect.tables(2), Expect.words(2, 1, 1, 0, 0), 1));
    }

    /** Tables of 1 and 2 columns, and an empty one. */
    private static RelationDesk pairs() {
        RelationDesk desk = Expect.desk(1, 1, 2);
        desk.table(2);
        Expect.put(desk, 1, 2, 5, 1, 6, 2, 7, 1);
        desk.table(1);
        return desk;
    }

    private static void crossAndJoin() {
        Expect.edge("promise 15, CROSS: for each row of the first one each row of the second one, side by side", () ->
            gives(pairs(), Expect.words(3, 0, 0, 0, 1), 3,
                1, 5, 1, 1, 6, 2, 1, 7, 1, 2, 5, 1, 2, 6, 2, 2, 7, 1));
        Expect.edge("promise 15, CROSS with no rows on either side, or on both: none", () -> {
            gives(pairs(), Expect.words(3, 0, 2, 0, 1), 3);
            gives(pairs(), Expect.words(3, 0, 1, 0, 2), 3);
            gives(pairs(), Expect.words(3, 0, 2, 0, 2), 2);
        });
        Expect.edge("promise 15, CROSS of one row with itself, of 12 columns", () ->
            gives(Expect.desk(6, 1, 2, 3, 4, 5, 6), Expect.words(3, 0, 0, 0, 0), 12, 1, 2, 3, 4, 5, 6, 1, 2, 3, 4, 5, 6));
        Expect.edge("promise 15, JOIN: c is the first one's column, d the second one's", () -> {
            gives(pairs(), Expect.words(4, 0, 1, 0, 0, 0, 1), 3, 1, 5, 1, 1, 7, 1, 2, 6, 2);
            gives(pairs(), Expect.words(4, 1, 0, 0, 1, 0, 0), 3, 5, 1, 1, 6, 2, 2, 7, 1, 1);
        });
        Expect.edge("promise 15, JOIN where none is equal, or with no rows: none", () -> {
            gives(pairs(), Expect.words(4, 0, 0, 0, 0, 0, 1), 3);
            gives(pairs(), Expect.words(4, 0, 0, 0, 0, 0, 2), 2);
            gives(pairs(), Expect.words(4, 0, 0, 0, 2, 0, 0), 2);
        });
        Expect.edge("promise 15, JOIN of the least and the greatest int: equal ones alone", () ->
            gives(Expect.desk(1, LEAST, GREATEST, -1, 0), Expect.words(4, 0, 0, 0, 0, 0, 0), 2,
                LEAST, LEAST, GREATEST, GREATEST, -1, -1, 0, 0));
    }

    private static void union() {
        Expect.edge("promise 15, UNION: the first one's rows, then the second one's, equal ones too", () ->
            gives(Expect.desk(1, 7, 5), Expect.words(5, 0, 0, 0, 0), 1, 7, 5, 7, 5));
        Expect.edge("promise 15, UNION with no rows on either side, or on both", () -> {
            RelationDesk desk = Expect.desk(1, 7, 5);
            desk.table(1);
            gives(desk, Expect.words(5, 0, 0, 0, 1), 1, 7, 5);
            gives(desk, Expect.words(5, 0, 1, 0, 0), 1, 7, 5);
            gives(desk, Expect.words(5, 0, 1, 0, 1), 1);
        });
    }

    private static void distinct() {
        Expect.edge("promise 15, DISTINCT of no rows: none", () -> gives(Expect.tables(1), Expect.words(6, 0, 0), 1));
        Expect.edge("promise 15, DISTINCT of 40 equal rows: one", () -> {
            RelationDesk desk = Expect.tables(6);
            Expect.fill(desk, 0, 40);
            gives(desk, Expect.words(6, 0, 0), 6, 0, 0, 0, 0, 0, 0);
        });
        Expect.edge("promise 15, DISTINCT of rows that differ at their first, or at their last column: both", () ->
            gives(Expect.desk(3, 1, 2, 3, 9, 2, 3, 1, 2, 9, 1, 2, 3), Expect.words(6, 0, 0), 3,
                1, 2, 3, 9, 2, 3, 1, 2, 9));
        Expect.edge("promise 15, DISTINCT: each row the first time it comes, in that order", () ->
            gives(Expect.desk(1, 3, 1, 3, 2, 1), Expect.words(6, 0, 0), 1, 3, 1, 2));
        Expect.edge("promise 15, DISTINCT of rows of the same cells in another order: all", () ->
            gives(Expect.desk(2, 1, 2, 2, 1, 1, 2), Expect.words(6, 0, 0), 2, 1, 2, 2, 1));
    }

    private static void sort() {
        Expect.edge("promise 15, SORT of no rows, and of one", () -> {
            gives(Expect.tables(1), Expect.words(7, 0, 0, 0, 0), 1);
            gives(Expect.desk(1, 5), Expect.words(7, 0, 1, 0, 0), 1, 5);
        });
        Expect.edge("promise 15, SORT rising: of equal ones the earlier first", () ->
            gives(Expect.desk(2, 2, 1, 1, 2, 2, 3, 1, 4), Expect.words(7, 0, 0, 0, 0), 2, 1, 2, 1, 4, 2, 1, 2, 3));
        Expect.edge("promise 15, SORT falling: of equal ones the earlier first", () ->
            gives(Expect.desk(2, 2, 1, 1, 2, 2, 3, 1, 4), Expect.words(7, 0, 1, 0, 0), 2, 2, 1, 2, 3, 1, 2, 1, 4));
        Expect.edge("promise 15, SORT of the least and the greatest int, rising and falling", () -> {
            RelationDesk desk = Expect.desk(1, 0, GREATEST, LEAST, 1, -1);
            gives(desk, Expect.words(7, 0, 0, 0, 0), 1, LEAST, -1, 0, 1, GREATEST);
            gives(desk, Expect.words(7, 0, 1, 0, 0), 1, GREATEST, 1, 0, -1, LEAST);
        });
        Expect.edge("promise 15, SORT by the last column of several: by no other", () ->
            gives(Expect.desk(3, 1, 1, 9, 2, 2, 8, 3, 3, 7), Expect.words(7, 2, 0, 0, 0), 3,
                3, 3, 7, 2, 2, 8, 1, 1, 9));
    }

    private static void limit() {
        Expect.edge("promise 15, LIMIT 0: no row", () -> gives(Expect.desk(1, 5, 6, 7), Expect.words(8, 0, 0, 0), 1));
        Expect.edge("promise 15, LIMIT 1: the first row", () ->
            gives(Expect.desk(1, 5, 6, 7), Expect.words(8, 1, 0, 0), 1, 5));
        Expect.edge("promise 15, LIMIT of one fewer than there are, as many, one more", () -> {
            gives(Expect.desk(1, 5, 6, 7), Expect.words(8, 2, 0, 0), 1, 5, 6);
            gives(Expect.desk(1, 5, 6, 7), Expect.words(8, 3, 0, 0), 1, 5, 6, 7);
            gives(Expect.desk(1, 5, 6, 7), Expect.words(8, 4, 0, 0), 1, 5, 6, 7);
        });
        Expect.edge("promise 15, LIMIT 100 of 121 rows: 100", () -> {
            RelationDesk desk = Expect.desk(1, Expect.range(1, 11));
            gives(desk, Expect.words(9, 8, 100, 3, 0, 0, 0, 0), 1, 100);
            gives(desk, Expect.words(9, 8, 99, 3, 0, 0, 0, 0), 1, 99);
        });
        Expect.edge("promise 15, LIMIT of no rows: none", () -> gives(Expect.tables(1), Expect.words(8, 100, 0, 0), 1));
    }

    private static void count() {
        Expect.edge("promise 15, COUNT of no rows: one row, 0", () -> gives(Expect.tables(3), Expect.words(9, 0, 0), 1, 0));
        Expect.edge("promise 15, COUNT of one row, and of 40", () -> {
            RelationDesk desk = Expect.tables(1);
            desk.insert(0);
            gives(desk, Expect.words(9, 0, 0), 1, 1);
            Expect.fill(desk, 0, 39);
            gives(desk, Expect.words(9, 0, 0), 1, 40);
        });
        Expect.edge("promise 15, COUNT of COUNT: one row, 1", () ->
            gives(Expect.tables(3), Expect.words(9, 9, 0, 0), 1, 1));
    }

    private static void group() {
        Expect.edge("promise 15, GROUP of no rows: none, with each o", () -> {
            for (int o = 0; o <= 3; o++) {
                gives(Expect.tables(1), Expect.words(10, 0, o, 0, 0, 0), 2);
            }
        });
        Expect.edge("promise 15, GROUP: for each value one row, in the order in which they come first", () -> {
            RelationDesk desk = Expect.desk(2, 3, 10, 1, 20, 3, 30, 2, 40, 1, -50);
            gives(desk, Expect.words(10, 0, 0, 1, 0, 0), 2, 3, 2, 1, 2, 2, 1);
            gives(desk, Expect.words(10, 0, 1, 1, 0, 0), 2, 3, 40, 1, -30, 2, 40);
            gives(desk, Expect.words(10, 0, 2, 1, 0, 0), 2, 3, 10, 1, -50, 2, 40);
            gives(desk, Expect.words(10, 0, 3, 1, 0, 0), 2, 3, 30, 1, 20, 2, 40);
        });
        Expect.edge("promise 15, GROUP whose d is c", () -> {
            RelationDesk desk = Expect.desk(1, 3, 3, 3);
            gives(desk, Expect.words(10, 0, 1, 0, 0, 0), 2, 3, 9);
            gives(desk, Expect.words(10, 0, 2, 0, 0, 0), 2, 3, 3);
        });
        Expect.edge("promise 15, GROUP by the last column, d the first", () ->
            gives(Expect.desk(3, 1, 7, 5, 2, 7, 5), Expect.words(10, 2, 1, 0, 0, 0), 2, 5, 3));
        Expect.edge("promise 15, GROUP of the least and the greatest int: values as any", () ->
            gives(Expect.desk(1, GREATEST, LEAST, 0, GREATEST), Expect.words(10, 0, 0, 0, 0, 0), 2,
                GREATEST, 2, LEAST, 1, 0, 1));
        Expect.edge("promise 15, GROUP's least and greatest of negative ints alone, and of positive ones alone", () -> {
            gives(Expect.desk(2, 1, -5, 1, -3), Expect.words(10, 0, 3, 1, 0, 0), 2, 1, -3);
            gives(Expect.desk(2, 1, 5, 1, 3), Expect.words(10, 0, 2, 1, 0, 0), 2, 1, 3);
            gives(Expect.desk(2, 1, LEAST, 1, GREATEST, 1, 0), Expect.words(10, 0, 2, 1, 0, 0), 2, 1, LEAST);
            gives(Expect.desk(2, 1, LEAST, 1, GREATEST, 1, 0), Expect.words(10, 0, 3, 1, 0, 0), 2, 1, GREATEST);
        });
    }

    private static void groupWraps() {
        Expect.edge("promise 15, GROUP's sum, as an int: the greatest int and 1 are the least one", () ->
            gives(Expect.desk(2, 1, GREATEST, 1, 1), Expect.words(10, 0, 1, 1, 0, 0), 2, 1, LEAST));
        Expect.edge("promise 15, GROUP's sum, as an int: the least int and -1 are the greatest one", () ->
            gives(Expect.desk(2, 1, LEAST, 1, -1), Expect.words(10, 0, 1, 1, 0, 0), 2, 1, GREATEST));
        Expect.edge("promise 15, GROUP's sum, as an int: it wraps round and back", () -> {
            gives(Expect.desk(2, 1, GREATEST, 1, 1, 1, -1), Expect.words(10, 0, 1, 1, 0, 0), 2, 1, GREATEST);
            gives(Expect.desk(2, 1, LEAST, 1, LEAST), Expect.words(10, 0, 1, 1, 0, 0), 2, 1, 0);
        });
    }
}
