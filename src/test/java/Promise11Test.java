/** Promise 11, cell: how many rows (k -1), or column c of row k. */
public final class Promise11Test {
    public static void main(String[] args) {
        counts();
        tables();
        rows();
        columns();
        Expect.finish("Promise11Test");
    }

    private static void counts() {
        Expect.edge("promise 11, k -1: how many rows, 0 and 40 too", () -> {
            RelationDesk desk = Expect.tables(1);
            for (int rows = 0; rows < 40; rows++) {
                Expect.same("cell(0, -1, 0)", rows, desk.cell(0, -1, 0));
                desk.insert(0);
            }
            Expect.same("cell(0, -1, 0)", 40, desk.cell(0, -1, 0));
        });
        for (int c : new int[] {-1, 2, Integer.MIN_VALUE, Integer.MAX_VALUE}) {
            Expect.edge("promise 11, k -1 and column " + c + ", which there is not: it does not matter", () ->
                Expect.same("cell(0, -1, " + c + ")", 3, Expect.desk(2, 1, 2, 3, 4, 5, 6).cell(0, -1, c)));
        }
    }

    private static void tables() {
        for (int table : Expect.outside(0, 1)) {
            Expect.edge("promise 11, table " + table + " of tables 0 and 1: no such table, of k -1 too", () -> {
                RelationDesk desk = Expect.tables(1, 1);
                desk.insert(0);
                desk.insert(1);
                Expect.argument("cell(" + table + ", -1, 0)", () -> desk.cell(table, -1, 0));
                Expect.argument("cell(" + table + ", 0, 0)", () -> desk.cell(table, 0, 0));
            });
        }
        Expect.edge("promise 11, table 5 of 6: there; 6 is not", () -> {
            RelationDesk desk = Expect.tables(1, 1, 1, 1, 1, 1);
            Expect.same("cell(5, -1, 0)", 0, desk.cell(5, -1, 0));
            Expect.argument("cell(6, -1, 0)", () -> desk.cell(6, -1, 0));
        });
    }

    private static void rows() {
        Expect.edge("promise 11, no rows: row 0 is not there", () -> {
            RelationDesk desk = Expect.tables(1);
            Expect.argument("cell(0, 0, 0)", () -> desk.cell(0, 0, 0));
        });
        Expect.edge("promise 11, the first and the last row of 40", () -> {
            RelationDesk desk = Expect.desk(1, Expect.range(1, 40));
            Expect.same("cell(0, 0, 0)", 1, desk.cell(0, 0, 0));
            Expect.same("cell(0, 39, 0)", 40, desk.cell(0, 39, 0));
            Expect.argument("cell(0, 40, 0)", () -> desk.cell(0, 40, 0));
        });
        for (int k : new int[] {-2, 3, Integer.MIN_VALUE, Integer.MAX_VALUE}) {
            Expect.edge("promise 11, row " + k + " of rows 0 .. 2: no such row", () -> {
                RelationDesk desk = Expect.desk(1, 5, 6, 7);
                Expect.argument("cell(0, " + k + ", 0)", () -> desk.cell(0, k, 0));
            });
        }
        Expect.edge("promise 11, a row that was taken out, or rolled back: no such row", () -> {
            RelationDesk desk = Expect.desk(1, 5, 6);
            desk.delete(0, 0, 5);
            Expect.same("cell(0, 0, 0)", 6, desk.cell(0, 0, 0));
            Expect.argument("cell(0, 1, 0)", () -> desk.cell(0, 1, 0));
            desk.begin();
            desk.insert(0);
            Expect.same("in the transaction", 6, desk.cell(0, 1, 0));
            desk.rollback();
            Expect.argument("cell(0, 1, 0)", () -> desk.cell(0, 1, 0));
        });
    }

    private static void columns() {
        for (int columns : new int[] {1, 6}) {
            Expect.edge("promise 11, the last column of " + columns, () -> {
                RelationDesk desk = Expect.tables(columns);
                desk.stage(columns - 1, 7);
                desk.insert(0);
                Expect.same("cell(0, 0, " + (columns - 1) + ")", 7, desk.cell(0, 0, columns - 1));
            });
            for (int c : Expect.outside(0, columns - 1)) {
                Expect.edge("promise 11, column " + c + " of " + columns + ": no such column", () -> {
                    RelationDesk desk = Expect.tables(columns);
                    Expect.fill(desk, 0, 3);
                    Expect.argument("cell(0, 0, " + c + ")", () -> desk.cell(0, 0, c));
                    Expect.argument("cell(0, 2, " + c + ")", () -> desk.cell(0, 2, c));
                });
            }
        }
    }
}
