/** Promise 3, index: of a column that there is, one at most, none while a transaction goes on. */
public final class Promise03Test {
    public static void main(String[] args) {
        named();
        once();
        transactions();
        Expect.finish("Promise03Test");
    }

    private static void named() {
        for (int table : Expect.outside(0, 1)) {
            Expect.edge("promise 3, table " + table + " of tables 0 and 1: no such table", () -> {
                RelationDesk desk = Expect.tables(6, 6);
                Expect.argument("index(" + table + ", 0)", () -> desk.index(table, 0));
            });
        }
        Expect.edge("promise 3, no tables, and 6 tables: table 0, and table 6, is not there", () -> {
            RelationDesk none = new RelationDesk();
            Expect.argument("index(0, 0)", () -> none.index(0, 0));
            RelationDesk all = Expect.tables(1, 1, 1, 1, 1, 1);
            all.index(5, 0);
            Expect.argument("index(6, 0)", () -> all.index(6, 0));
        });
        for (int columns : new int[] {1, 6}) {
            Expect.edge("promise 3, the first and last column of " + columns + ": taken", () -> {
                RelationDesk desk = Expect.tables(columns);
                desk.index(0, columns - 1);
                if (columns > 1) {
                    desk.index(0, 0);
                }
            });
            for (int column : Expect.outside(0, columns - 1)) {
                Expect.edge("promise 3, column " + column + " of " + columns + ": no such column", () -> {
                    RelationDesk desk = Expect.tables(columns);
                    Expect.argument("index(0, " + column + ")", () -> desk.index(0, column));
                });
            }
        }
    }

    private static void once() {
        Expect.edge("promise 3, there is one: refused", () -> {
            RelationDesk desk = Expect.tables(2);
            desk.index(0, 1);
            Expect.state("index(0, 1)", () -> desk.index(0, 1));
            Expect.state("index(0, 1)", () -> desk.index(0, 1));
        });
        Expect.edge("promise 3, one of another column or table is not this one: all 36 are taken, once", () -> {
            RelationDesk desk = Expect.tables(6, 6, 6, 6, 6, 6);
            for (int i = 0; i < 36; i++) {
                desk.index(i / 6, i % 6);
            }
            for (int i = 0; i < 36; i++) {
                int n = i;
                Expect.state("index " + n, () -> desk.index(n / 6, n % 6));
            }
        });
        Expect.edge("promise 3, rows from before it and from behind it: both are in it", () -> {
            RelationDesk desk = Expect.desk(1, 5, 6);
            desk.index(0, 0);
            Expect.put(desk, 0, 1, 7, 5);
            Expect.gives("SELECT by it", desk, Expect.words(1, 0, 0, 5, 0, 0), 1, 2, 5, 5);
        });
    }

    private static void transactions() {
        Expect.edge("promise 3, a transaction goes on: refused, and there is no index", () -> {
            RelationDesk desk = Expect.desk(1, 5, 6);
            desk.begin();
            Expect.state("index(0, 0)", () -> desk.index(0, 0));
            Expect.gives("a SELECT costs all rows", desk, Expect.words(1, 0, 0, 5, 0, 0), 1, 2, 5);
            desk.commit();
            desk.index(0, 0);
            Expect.gives("now it costs one", desk, Expect.words(1, 0, 0, 5, 0, 0), 1, 1, 5);
        });
        Expect.edge("promise 3, a transaction goes on and there is one: refused", () -> {
            RelationDesk desk = Expect.tables(1);
            desk.index(0, 0);
            desk.begin();
            Expect.state("index(0, 0)", () -> desk.index(0, 0));
        });
        Expect.edge("promise 3, a transaction goes on and no such column: the argument is looked at first", () -> {
            RelationDesk desk = Expect.tables(1);
            desk.begin();
            Expect.argument("index(0, 1)", () -> desk.index(0, 1));
            Expect.argument("index(1, 0)", () -> desk.index(1, 0));
        });
        Expect.edge("promise 3, rollback(): an index from before it stays", () -> {
            RelationDesk desk = Expect.tables(2);
            desk.index(0, 0);
            desk.begin();
            desk.rollback();
            Expect.state("index(0, 0)", () -> desk.index(0, 0));
            desk.index(0, 1);
        });
    }
}
