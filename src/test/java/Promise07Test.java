/** Promise 7, change: told as 8 * column + to; likewise at most 120 rows in one transaction. */
public final class Promise07Test {
    public static void main(String[] args) {
        named();
        rows();
        transactions();
        Expect.finish("Promise07Test");
    }

    private static void named() {
        for (int table : Expect.outside(0, 1)) {
            Expect.edge("promise 7, table " + table + " of tables 0 and 1: no such table, and nothing is done", () -> {
                RelationDesk desk = Expect.tables(1, 1);
                desk.insert(0);
                desk.insert(1);
                Expect.argument("change(" + table + ", 0, 0, 9)", () -> desk.change(table, 0, 0, 9));
                Expect.holds("table 0", desk, 0, 1, 0);
                Expect.holds("table 1", desk, 1, 1, 0);
            });
        }
        for (int width = 1; width <= 6; width++) {
            int columns = width;
            Expect.edge("promise 7, column and to of a table of " + columns + ": those that there are, no others", () -> {
                for (int told = -64; told <= 128; told++) {
                    allowed(columns, told, told >= 0 && told / 8 < columns && told % 8 < columns);
                }
            });
        }
        for (int told : new int[] {Integer.MIN_VALUE, Integer.MIN_VALUE + 9, Integer.MAX_VALUE, Integer.MAX_VALUE - 7}) {
            Expect.edge("promise 7, columns told as " + told + ": no such column", () -> allowed(6, told, false));
        }
        Expect.edge("promise 7, no row is there and no such column: the columns are looked at nonetheless", () -> {
            RelationDesk desk = Expect.tables(2);
            Expect.argument("to 2", () -> desk.change(0, 2, 0, 0));
            Expect.argument("column 2", () -> desk.change(0, 16, 0, 0));
        });
    }

    /** Row 1 .. n: the column's own value is looked for, 9 is put to where it is told. */
    private static void allowed(int columns, int told, boolean is) {
        RelationDesk desk = Expect.tables(columns);
        for (int c = 0; c < columns; c++) {
            desk.stage(c, c + 1);
        }
        desk.insert(0);
        if (is) {
            Expect.same("change to " + told, 1, desk.change(0, told, told / 8 + 1, 9));
        } else {
            Expect.argument("change to " + told, () -> desk.change(0, told, 1, 9));
        }
        for (int c = 0; c < columns; c++) {
            Expect.same("column " + c + " behind " + told, is && told % 8 == c ? 9 : c + 1, desk.cell(0, 0, c));
        }
    }

    private static void rows() {
        Expect.edge("promise 7, a table of no rows: 0", () ->
            Expect.same("change(0, 0, 0, 1)", 0, Expect.tables(1).change(0, 0, 0, 1)));
        Expect.edge("promise 7, no row is v: 0, and all stay", () -> {
            RelationDesk desk = Expect.desk(2, 1, 5, 2, 6);
            Expect.same("change(0, 1, 5, 9)", 0, desk.change(0, 1, 5, 9));
            Expect.holds("the rows", desk, 0, 2, 1, 5, 2, 6);
        });
        Expect.edge("promise 7, all 40 rows: 40", () -> {
            RelationDesk desk = Expect.tables(6);
            Expect.fill(desk, 0, 40);
            Expect.same("change(0, 5, 0, 3)", 40, desk.change(0, 5, 0, 3));
            Expect.same("the first", 3, desk.cell(0, 0, 5));
            Expect.same("the last", 3, desk.cell(0, 39, 5));
        });
        Expect.edge("promise 7, the first row and the last one: changed; the ones between stay", () -> {
            RelationDesk desk = Expect.desk(2, 7, 1, 8, 2, 9, 3, 7, 4);
            Expect.same("change(0, 1, 7, -1)", 2, desk.change(0, 1, 7, -1));
            Expect.holds("the rows", desk, 0, 2, 7, -1, 8, 2, 9, 3, 7, -1);
        });
        Expect.edge("promise 7, column and to are one: rows that become x count, those that were x do not", () -> {
            RelationDesk desk = Expect.desk(1, 1, 2, 1);
            Expect.same("change(0, 0, 1, 2)", 2, desk.change(0, 0, 1, 2));
            Expect.holds("the rows", desk, 0, 1, 2, 2, 2);
        });
        Expect.edge("promise 7, it becomes what it was: it counts", () -> {
            RelationDesk desk = Expect.desk(1, 1, 2, 1);
            desk.begin();
            Expect.same("change(0, 0, 1, 1)", 2, desk.change(0, 0, 1, 1));
            Expect.same("commit()", 2, desk.commit());
            Expect.holds("the rows", desk, 0, 1, 1, 2, 1);
        });
        Expect.edge("promise 7, v and x the least and the greatest int: taken as they are", () -> {
            RelationDesk desk = Expect.desk(1, Integer.MIN_VALUE, Integer.MAX_VALUE, 0);
            Expect.same("to the greatest", 1, desk.change(0, 0, Integer.MIN_VALUE, Integer.MAX_VALUE));
            Expect.same("to the least", 2, desk.change(0, 0, Integer.MAX_VALUE, Integer.MIN_VALUE));
            Expect.holds("the rows", desk, 0, 1, Integer.MIN_VALUE, Integer.MIN_VALUE, 0);
        });
    }

    /** Ten rows of 0 in table 0 and one of 0 in table 1, whose changes make so many in a transaction. */
    private static RelationDesk changed(int count) {
        RelationDesk desk = Expect.tables(1, 1);
        Expect.fill(desk, 0, 10);
        desk.insert(1);
        desk.begin();
        for (int i = 0; i < count; i++) {
            desk.change(1, 0, 0, 0);
        }
        return desk;
    }

    private static void transactions() {
        Expect.edge("promise 7, it would have changed 120: done", () -> {
            RelationDesk desk = changed(110);
            Expect.same("change(0, 0, 0, 5)", 10, desk.change(0, 0, 0, 5));
            Expect.same("the last", 5, desk.cell(0, 9, 0));
            Expect.same("commit()", 120, desk.commit());
        });
        Expect.edge("promise 7, it would have changed 121: refused, nothing is done and nothing counts", () -> {
            RelationDesk desk = changed(111);
            Expect.state("change(0, 0, 0, 5)", () -> desk.change(0, 0, 0, 5));
            Expect.holds("the rows", desk, 0, 1, new int[10]);
            Expect.same("commit()", 111, desk.commit());
        });
        Expect.edge("promise 7, it has changed 120: no row is not more, one row is", () -> {
            RelationDesk desk = changed(120);
            Expect.same("none", 0, desk.change(0, 0, 77, 5));
            Expect.state("one", () -> desk.change(1, 0, 0, 0));
            Expect.argument("no such column: the argument is looked at first", () -> desk.change(0, 1, 0, 0));
            Expect.argument("no such table: the argument is looked at first", () -> desk.change(2, 0, 0, 0));
        });
        Expect.edge("promise 7, no transaction: 200 rows in five calls", () -> {
            RelationDesk desk = Expect.tables(1);
            Expect.fill(desk, 0, 40);
            for (int i = 0; i < 5; i++) {
                Expect.same("change(0, 0, " + i + ", ..)", 40, desk.change(0, 0, i, i + 1));
            }
        });
    }
}
