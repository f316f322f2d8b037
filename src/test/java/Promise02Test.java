/** Promise 2, table: 1 .. 6 columns, 6 tables, none while a transaction goes on. */
public final class Promise02Test {
    public static void main(String[] args) {
        columns();
        numbers();
        transactions();
        Expect.finish("Promise02Test");
    }

    private static void columns() {
        for (int columns = 1; columns <= 6; columns++) {
            int most = columns;
            Expect.edge("promise 2, " + columns + " columns (1 the least, 6 the most): as many as asked for", () -> {
                RelationDesk desk = new RelationDesk();
                Expect.same("table(" + most + ")", 0, desk.table(most));
                desk.insert(0);
                Expect.same("its last column", 0, desk.cell(0, 0, most - 1));
                Expect.argument("the one behind it", () -> desk.cell(0, 0, most));
            });
        }
        for (int columns : Expect.outside(1, 6)) {
            Expect.edge("promise 2, " + columns + " columns (not 1 .. 6): refused, and there is no table", () -> {
                RelationDesk desk = new RelationDesk();
                Expect.argument("table(" + columns + ")", () -> desk.table(columns));
                Expect.argument("cell(0, -1, 0)", () -> desk.cell(0, -1, 0));
                Expect.same("the next one is still number 0", 0, desk.table(1));
            });
        }
        Expect.edge("promise 2, a new table: it has no rows and no indexes", () -> {
            RelationDesk desk = Expect.desk(2, 1, 2, 3, 4);
            desk.index(0, 0);
            Expect.same("table(2)", 1, desk.table(2));
            Expect.same("rows", 0, desk.cell(1, -1, 0));
            desk.index(1, 0);
            desk.index(1, 1);
        });
    }

    private static void numbers() {
        Expect.edge("promise 2, tables 0 .. 5: numbered as they come", () -> {
            RelationDesk desk = new RelationDesk();
            for (int n = 0; n < 6; n++) {
                Expect.same("table(" + (6 - n) + ")", n, desk.table(6 - n));
            }
        });
        Expect.edge("promise 2, there are 6: the seventh is refused, and is not there", () -> {
            RelationDesk desk = Expect.tables(1, 2, 3, 4, 5, 6);
            Expect.state("table(1)", () -> desk.table(1));
            Expect.state("table(6)", () -> desk.table(6));
            Expect.argument("cell(6, -1, 0)", () -> desk.cell(6, -1, 0));
            desk.insert(5);
            Expect.holds("the sixth is as it was", desk, 5, 6, 0, 0, 0, 0, 0, 0);
        });
        Expect.edge("promise 2, there are 6 and 0 or 7 columns: the argument is looked at first", () -> {
            RelationDesk desk = Expect.tables(1, 1, 1, 1, 1, 1);
            Expect.argument("table(0)", () -> desk.table(0));
            Expect.argument("table(7)", () -> desk.table(7));
        });
    }

    private static void transactions() {
        Expect.edge("promise 2, a transaction goes on: refused, the first table too", () -> {
            RelationDesk desk = new RelationDesk();
            desk.begin();
            Expect.state("table(1)", () -> desk.table(1));
            Expect.argument("cell(0, -1, 0)", () -> desk.cell(0, -1, 0));
            Expect.argument("table(0): the argument is looked at first", () -> desk.table(0));
            Expect.same("it goes on", 0, desk.commit());
        });
        Expect.edge("promise 2, behind commit(): taken again, with the next number", () -> {
            RelationDesk desk = Expect.tables(1);
            desk.begin();
            desk.commit();
            Expect.same("table(1)", 1, desk.table(1));
        });
        Expect.edge("promise 2, behind rollback(): taken again, with the next number", () -> {
            RelationDesk desk = Expect.tables(1);
            desk.begin();
            desk.rollback();
            Expect.same("table(1)", 1, desk.table(1));
        });
    }
}
