/** Promise 6, delete: all rows whose column is v, none of them when that would be more than 120. */
public final class Promise06Test {
    public static void main(String[] args) {
        named();
        rows();
        transactions();
        Expect.finish("Promise06Test");
    }

    private static void named() {
        for (int table : Expect.outside(0, 1)) {
            Expect.edge("promise 6, table " + table + " of tables 0 and 1: no such table, and nothing is done", () -> {
                RelationDesk desk = Expect.tables(1, 1);
                desk.insert(0);
                desk.insert(1);
                Expect.argument("delete(" + table + ", 0, 0)", () -> desk.delete(table, 0, 0));
                Expect.holds("table 0", desk, 0, 1, 0);
                Expect.holds("table 1", desk, 1, 1, 0);
            });
        }
        for (int columns : new int[] {1, 6}) {
            for (int column : Expect.outside(0, columns - 1)) {
                Expect.edge("promise 6, column " + column + " of " + columns + ": no such column, and nothing is done", () -> {
                    RelationDesk desk = Expect.tables(columns);
                    desk.insert(0);
                    Expect.argument("delete(0, " + column + ", 0)", () -> desk.delete(0, column, 0));
                    Expect.same("rows", 1, desk.cell(0, -1, 0));
                });
            }
            Expect.edge("promise 6, the first and the last column of " + columns + ": looked at", () -> {
                RelationDesk desk = Expect.tables(columns);
                desk.stage(0, 1);
                desk.insert(0);
                desk.stage(columns - 1, 7);
                desk.insert(0);
                Expect.same("delete by the last column", 1, desk.delete(0, columns - 1, 7));
                Expect.same("delete by the first column", 1, desk.delete(0, 0, 1));
                Expect.same("rows", 0, desk.cell(0, -1, 0));
            });
        }
        Expect.edge("promise 6, no row is there and no such column: the column is looked at nonetheless", () -> {
            RelationDesk desk = Expect.tables(2);
            Expect.argument("delete(0, 2, 0)", () -> desk.delete(0, 2, 0));
        });
    }

    private static void rows() {
        Expect.edge("promise 6, a table of no rows: 0", () ->
            Expect.same("delete(0, 0, 0)", 0, Expect.tables(1).delete(0, 0, 0)));
        Expect.edge("promise 6, no row is v (nor another column of one): 0, and all stay", () -> {
            RelationDesk desk = Expect.desk(2, 1, 5, 2, 6);
            Expect.same("delete(0, 0, 5)", 0, desk.delete(0, 0, 5));
            Expect.holds("the rows", desk, 0, 2, 1, 5, 2, 6);
        });
        Expect.edge("promise 6, the first row, the last one, and two side by side: the others stay in order", () -> {
            RelationDesk desk = Expect.desk(2, 9, 1, 2, 2, 9, 3, 9, 4, 5, 5, 3, 6, 9, 7);
            Expect.same("delete(0, 0, 9)", 4, desk.delete(0, 0, 9));
            Expect.holds("the rows", desk, 0, 2, 2, 2, 5, 5, 3, 6);
        });
        Expect.edge("promise 6, all 40 rows: 40, and none is left", () -> {
            RelationDesk desk = Expect.tables(6);
            Expect.fill(desk, 0, 40);
            Expect.same("delete(0, 5, 0)", 40, desk.delete(0, 5, 0));
            Expect.holds("the rows", desk, 0, 6);
            Expect.same("delete(0, 5, 0) again", 0, desk.delete(0, 5, 0));
        });
        Expect.edge("promise 6, v the least and the greatest int: equal ones alone", () -> {
            RelationDesk desk = Expect.desk(1, Integer.MIN_VALUE, Integer.MAX_VALUE, -1, 0);
            Expect.same("the least", 1, desk.delete(0, 0, Integer.MIN_VALUE));
            Expect.same("the greatest", 1, desk.delete(0, 0, Integer.MAX_VALUE));
            Expect.holds("the rows", desk, 0, 1, -1, 0);
        });
        Expect.edge("promise 6, another table of equal rows: it stays as it was", () -> {
            RelationDesk desk = Expect.tables(1, 1);
            desk.insert(0);
            desk.insert(1);
            Expect.same("delete(0, 0, 0)", 1, desk.delete(0, 0, 0));
            Expect.holds("table 1", desk, 1, 1, 0);
        });
    }

    /** 40 rows of column 0: 1 .. 10 three times, ten 0s; a transaction that has changed so many. */
    private static RelationDesk changed(int count) {
        RelationDesk desk = Expect.desk(1, Expect.range(1, 10));
        Expect.put(desk, 0, 1, new int[10]);
        Expect.put(desk, 0, 1, Expect.range(1, 10));
        Expect.put(desk, 0, 1, Expect.range(1, 10));
        desk.table(1);
        desk.insert(1);
        int own = desk.cell(1, 0, 0);
        desk.begin();
        for (int i = 0; i < count; i++) {
            desk.change(1, 0, own, own);
        }
        return desk;
    }

    private static void transactions() {
        Expect.edge("promise 6, it would have changed 120: done", () -> {
            RelationDesk desk = changed(110);
            Expect.same("delete(0, 0, 0)", 10, desk.delete(0, 0, 0));
            Expect.same("rows", 30, desk.cell(0, -1, 0));
            Expect.same("commit()", 120, desk.commit());
        });
        Expect.edge("promise 6, it would have changed 121: refused, nothing is done and nothing counts", () -> {
            RelationDesk desk = changed(111);
            Expect.state("delete(0, 0, 0)", () -> desk.delete(0, 0, 0));
            Expect.same("rows", 40, desk.cell(0, -1, 0));
            Expect.same("the first of them", 0, desk.cell(0, 10, 0));
            Expect.same("commit()", 111, desk.commit());
        });
        Expect.edge("promise 6, it would have changed 121: fewer rows are still taken out", () -> {
            RelationDesk desk = changed(117);
            Expect.state("ten", () -> desk.delete(0, 0, 0));
            Expect.same("three", 3, desk.delete(0, 0, 1));
            Expect.same("commit()", 120, desk.commit());
        });
        Expect.edge("promise 6, it has changed 120: no row is not more, one row is", () -> {
            RelationDesk desk = changed(120);
            Expect.same("none", 0, desk.delete(0, 0, 77));
            Expect.state("one", () -> desk.delete(1, 0, desk.cell(1, 0, 0)));
            Expect.argument("no such column: the argument is looked at first", () -> desk.delete(0, 1, 0));
            Expect.argument("no such table: the argument is looked at first", () -> desk.delete(2, 0, 0));
        });
        Expect.edge("promise 6, no transaction: 160 rows in four calls", () -> {
            RelationDesk desk = Expect.tables(1, 1, 1, 1);
            for (int t = 0; t < 4; t++) {
                Expect.fill(desk, t, 40);
            }
            for (int t = 0; t < 4; t++) {
                Expect.same("delete(" + t + ", 0, 0)", 40, desk.delete(t, 0, 0));
            }
        });
    }
}
