/** Promise 5, insert: as many cells as columns, 40 rows, and 120 in one transaction. */
public final class Promise05Test {
    public static void main(String[] args) {
        cells();
        named();
        forty();
        transactions();
        Expect.finish("Promise05Test");
    }

    private static void cells() {
        for (int columns = 1; columns <= 6; columns++) {
            int width = columns;
            Expect.edge("promise 5, " + columns + " columns: so many cells, the first ones", () -> {
                RelationDesk desk = Expect.tables(width);
                for (int c = 0; c <= 5; c++) {
                    desk.stage(c, c + 1);
                }
                Expect.same("insert(0)", 1, desk.insert(0));
                Expect.same("insert(0)", 2, desk.insert(0));
                for (int c = 0; c < width; c++) {
                    Expect.same("cell " + c + " of row 0", c + 1, desk.cell(0, 0, c));
                    Expect.same("cell " + c + " of row 1", c + 1, desk.cell(0, 1, c));
                }
            });
        }
        Expect.edge("promise 5, rows stand in the order in which they came in, equal ones too", () -> {
            RelationDesk desk = Expect.desk(1, 3, 1, 3, 2);
            Expect.holds("the rows", desk, 0, 1, 3, 1, 3, 2);
        });
    }

    private static void named() {
        for (int table : Expect.outside(0, 1)) {
            Expect.edge("promise 5, table " + table + " of tables 0 and 1: no such table, and no row comes in", () -> {
                RelationDesk desk = Expect.tables(1, 1);
                Expect.argument("insert(" + table + ")", () -> desk.insert(table));
                Expect.holds("table 0", desk, 0, 1);
                Expect.holds("table 1", desk, 1, 1);
            });
        }
        Expect.edge("promise 5, tables 0 and 5 of 6: taken; 6 is not", () -> {
            RelationDesk desk = Expect.tables(1, 1, 1, 1, 1, 1);
            Expect.same("insert(0)", 1, desk.insert(0));
            Expect.same("insert(5)", 1, desk.insert(5));
            Expect.argument("insert(6)", () -> desk.insert(6));
        });
    }

    private static void forty() {
        Expect.edge("promise 5, rows 1 .. 40: taken, and counted", () -> {
            RelationDesk desk = Expect.tables(6);
            for (int rows = 1; rows <= 40; rows++) {
                desk.stage(5, rows);
                Expect.same("insert(0)", rows, desk.insert(0));
            }
            Expect.same("the first", 1, desk.cell(0, 0, 5));
            Expect.same("the last", 40, desk.cell(0, 39, 5));
        });
        Expect.edge("promise 5, there are 40: refused, and all 40 are as they were", () -> {
            RelationDesk desk = Expect.desk(1, Expect.range(1, 40));
            desk.stage(0, 99);
            Expect.state("insert(0)", () -> desk.insert(0));
            Expect.holds("the rows", desk, 0, 1, Expect.range(1, 40));
        });
        Expect.edge("promise 5, there are 40 in one table: another one has room", () -> {
            RelationDesk desk = Expect.tables(1, 1);
            Expect.fill(desk, 0, 40);
            Expect.same("insert(1)", 1, desk.insert(1));
        });
        Expect.edge("promise 5, 40 less one that is taken out: there is room for one, behind the others", () -> {
            RelationDesk desk = Expect.desk(1, Expect.range(1, 40));
            desk.delete(0, 0, 1);
            desk.stage(0, 41);
            Expect.same("insert(0)", 40, desk.insert(0));
            Expect.holds("the rows", desk, 0, 1, Expect.range(2, 41));
            Expect.state("insert(0)", () -> desk.insert(0));
        });
        Expect.edge("promise 5, 240 rows in six tables outside a transaction: all taken", () -> {
            RelationDesk desk = Expect.tables(1, 1, 1, 1, 1, 1);
            for (int t = 0; t < 6; t++) {
                Expect.fill(desk, t, 40);
                Expect.same("rows", 40, desk.cell(t, -1, 0));
            }
        });
    }

    /** A transaction that has put in 40 rows each in tables 0 and 1, and so many in table 2. */
    private static RelationDesk changed(int inTable2) {
        RelationDesk desk = Expect.tables(1, 1, 1, 1);
        desk.begin();
        Expect.fill(desk, 0, 40);
        Expect.fill(desk, 1, 40);
        Expect.fill(desk, 2, inTable2);
        return desk;
    }

    private static void transactions() {
        Expect.edge("promise 5, the transaction has changed 119: one more is taken", () -> {
            RelationDesk desk = changed(39);
            Expect.same("insert(3)", 1, desk.insert(3));
            Expect.same("commit()", 120, desk.commit());
        });
        Expect.edge("promise 5, the transaction has changed 120: refused, nothing comes in or counts", () -> {
            RelationDesk desk = changed(40);
            Expect.state("insert(3)", () -> desk.insert(3));
            Expect.holds("table 3", desk, 3, 1);
            Expect.same("commit()", 120, desk.commit());
        });
        Expect.edge("promise 5, the transaction has changed 120 and no such table: the argument is looked at first", () -> {
            RelationDesk desk = changed(40);
            Expect.argument("insert(4)", () -> desk.insert(4));
            Expect.argument("insert(-1)", () -> desk.insert(-1));
        });
        Expect.edge("promise 5, behind a transaction of 120: taken, and a new one has changed 0", () -> {
            RelationDesk desk = changed(40);
            desk.commit();
            Expect.same("insert(3)", 1, desk.insert(3));
            desk.begin();
            Expect.same("insert(3)", 2, desk.insert(3));
            Expect.same("commit()", 1, desk.commit());
        });
        Expect.edge("promise 5, there are 40 while a transaction goes on: what is refused does not count", () -> {
            RelationDesk desk = Expect.tables(1);
            Expect.fill(desk, 0, 40);
            desk.begin();
            Expect.state("insert(0)", () -> desk.insert(0));
            Expect.same("commit()", 0, desk.commit());
        });
        Expect.edge("promise 5, rows from before the transaction: they do not count in it", () -> {
            RelationDesk desk = Expect.tables(1, 1, 1, 1, 1);
            for (int t = 0; t < 4; t++) {
                Expect.fill(desk, t, 40);
            }
            desk.begin();
            Expect.same("insert(4)", 1, desk.insert(4));
            Expect.same("commit()", 1, desk.commit());
        });
    }
}
