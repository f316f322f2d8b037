/** Promise 10, rollback: all tables as they were when it began; likewise how many rows it changed. */
public final class Promise10Test {
    public static void main(String[] args) {
        refused();
        counts();
        tables();
        others();
        Expect.finish("Promise10Test");
    }

    private static void refused() {
        Expect.edge("promise 10, there is none: refused, on a new object", () -> {
            RelationDesk desk = new RelationDesk();
            Expect.state("rollback()", () -> desk.rollback());
        });
        Expect.edge("promise 10, there is none: refused behind rollback(), and later writes stay", () -> {
            RelationDesk desk = Expect.desk(1, 5);
            desk.begin();
            desk.rollback();
            desk.insert(0);
            Expect.state("rollback()", () -> desk.rollback());
            Expect.holds("the rows", desk, 0, 1, 5, 5);
        });
        Expect.edge("promise 10, there is none: refused behind commit(), and what was done stays", () -> {
            RelationDesk desk = Expect.desk(1, 5);
            desk.begin();
            desk.insert(0);
            desk.commit();
            Expect.state("rollback()", () -> desk.rollback());
            Expect.holds("the rows", desk, 0, 1, 5, 5);
        });
    }

    private static void counts() {
        Expect.edge("promise 10, nothing was changed: 0", () -> {
            RelationDesk desk = Expect.desk(1, 5);
            desk.begin();
            Expect.same("rollback()", 0, desk.rollback());
            Expect.holds("the rows", desk, 0, 1, 5);
        });
        Expect.edge("promise 10, one row put in, changed and taken out: 3, though nothing is left of it", () -> {
            RelationDesk desk = Expect.tables(1);
            desk.begin();
            desk.insert(0);
            desk.change(0, 0, 0, 1);
            desk.delete(0, 0, 1);
            Expect.same("rollback()", 3, desk.rollback());
        });
        Expect.edge("promise 10, 120 were changed: 120, and a new transaction counts from 0", () -> {
            RelationDesk desk = Expect.tables(1);
            Expect.fill(desk, 0, 40);
            desk.begin();
            for (int i = 0; i < 3; i++) {
                desk.change(0, 0, i, i + 1);
            }
            Expect.same("rollback()", 120, desk.rollback());
            Expect.holds("the rows", desk, 0, 1, new int[40]);
            desk.begin();
            Expect.same("40 more", 40, desk.delete(0, 0, 0));
            Expect.same("rollback()", 40, desk.rollback());
        });
        Expect.edge("promise 10, a refused write: it does not count", () -> {
            RelationDesk desk = Expect.tables(1);
            desk.begin();
            Expect.fill(desk, 0, 40);
            Expect.state("insert(0)", () -> desk.insert(0));
            Expect.argument("delete(1, 0, 0)", () -> desk.delete(1, 0, 0));
            Expect.same("rollback()", 40, desk.rollback());
        });
    }

    private static void tables() {
        Expect.edge("promise 10, tables that were empty: they are empty again", () -> {
            RelationDesk desk = Expect.tables(1, 6);
            desk.begin();
            Expect.fill(desk, 0, 40);
            Expect.fill(desk, 1, 40);
            desk.rollback();
            Expect.holds("table 0", desk, 0, 1);
            Expect.holds("table 1", desk, 1, 6);
            Expect.same("there is room again", 1, desk.insert(0));
        });
        Expect.edge("promise 10, a table that was full: all 40 rows are there again, in their order", () -> {
            RelationDesk desk = Expect.desk(1, Expect.range(1, 40));
            desk.begin();
            desk.delete(0, 0, 1);
            desk.delete(0, 0, 40);
            desk.change(0, 0, 20, 7);
            desk.insert(0);
            desk.rollback();
            Expect.holds("the rows", desk, 0, 1, Expect.range(1, 40));
            Expect.state("insert(0)", () -> desk.insert(0));
        });
        Expect.edge("promise 10, rows taken out and put in anew: they stand where they stood", () -> {
            RelationDesk desk = Expect.desk(2, 1, 10, 2, 20, 3, 30);
            desk.begin();
            desk.delete(0, 0, 1);
            Expect.put(desk, 0, 2, 1, 10);
            desk.rollback();
            Expect.holds("the rows", desk, 0, 2, 1, 10, 2, 20, 3, 30);
        });
        Expect.edge("promise 10, all tables: the first and the sixth one too", () -> {
            RelationDesk desk = Expect.tables(1, 2, 3, 4, 5, 6);
            for (int t = 0; t < 6; t++) {
                desk.stage(t, t + 1);
                desk.insert(t);
            }
            desk.begin();
            for (int t = 0; t < 6; t++) {
                Expect.same("change in table " + t, 1, desk.change(t, 9 * t, t + 1, -1));
                desk.insert(t);
            }
            Expect.same("rollback()", 12, desk.rollback());
            for (int t = 0; t < 6; t++) {
                Expect.same("rows of table " + t, 1, desk.cell(t, -1, 0));
                Expect.same("the last cell of table " + t, t + 1, desk.cell(t, 0, t));
            }
        });
    }

    private static void others() {
        Expect.edge("promise 10, what is no table: the row at hand and the words stay", () -> {
            RelationDesk desk = Expect.desk(1, 5);
            desk.begin();
            desk.stage(0, 8);
            desk.feed(0);
            desk.rollback();
            Expect.same("feed(0)", 2, desk.feed(0));
            Expect.same("insert(0)", 2, desk.insert(0));
            Expect.holds("the rows", desk, 0, 1, 5, 8);
        });
        Expect.edge("promise 10, an index: it finds the rows that are there again, and no others", () -> {
            RelationDesk desk = Expect.desk(1, 5, 6, 5);
            desk.index(0, 0);
            desk.begin();
            desk.change(0, 0, 6, 5);
            desk.delete(0, 0, 5);
            desk.rollback();
            Expect.gives("SELECT by it", desk, Expect.words(1, 0, 0, 5, 0, 0), 1, 2, 5, 5);
            Expect.gives("SELECT by it", desk, Expect.words(1, 0, 0, 6, 0, 0), 1, 1, 6);
        });
    }
}
