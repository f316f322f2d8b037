/** Promise 16, column: of the row that came last; 0 when none came since the latest prepare(), or it has none such. */
public final class Promise16Test {
    public static void main(String[] args) {
        columns();
        none();
        stays();
        Expect.finish("Promise16Test");
    }

    private static void columns() {
        Expect.edge("promise 16, a row of 12 columns: 0 and 11 are its first and last, -1 and 12 are none", () -> {
            RelationDesk desk = Expect.desk(6, 1, 2, 3, 4, 5, 6);
            Expect.prepare(desk, 3, 0, 0, 0, 0);
            Expect.same("step(2)", 1, desk.step(2));
            for (int i = 0; i < 12; i++) {
                Expect.same("column(" + i + ")", i % 6 + 1, desk.column(i));
            }
            for (int i : Expect.outside(0, 11)) {
                Expect.same("column(" + i + ")", 0, desk.column(i));
            }
        });
        Expect.edge("promise 16, a row of 1 column: it has no column 1", () -> {
            RelationDesk desk = Expect.desk(2, 7, 8);
            Expect.prepare(desk, 2, 1, 1, 0, 0);
            Expect.same("step(1)", 1, desk.step(1));
            Expect.same("column(0)", 8, desk.column(0));
            for (int i : Expect.outside(0, 0)) {
                Expect.same("column(" + i + ")", 0, desk.column(i));
            }
        });
        Expect.edge("promise 16, a narrow row behind a wide one: nothing is left of the wide one", () -> {
            RelationDesk desk = Expect.desk(6, 1, 2, 3, 4, 5, 6);
            Expect.prepare(desk, 3, 0, 0, 0, 0);
            desk.step(2);
            Expect.prepare(desk, 9, 0, 0);
            Expect.same("step(1)", 1, desk.step(1));
            Expect.same("column(0)", 1, desk.column(0));
            for (int i = 1; i < 12; i++) {
                Expect.same("column(" + i + ")", 0, desk.column(i));
            }
        });
        Expect.edge("promise 16, the least and the greatest int: as they are", () -> {
            RelationDesk desk = Expect.desk(2, Integer.MIN_VALUE, Integer.MAX_VALUE);
            Expect.prepare(desk, 0, 0);
            desk.step(1);
            Expect.same("column(0)", Integer.MIN_VALUE, desk.column(0));
            Expect.same("column(1)", Integer.MAX_VALUE, desk.column(1));
        });
    }

    /** A desk where a row of 7 and 8 came. */
    private static RelationDesk came() {
        RelationDesk desk = Expect.desk(2, 7, 8, 9, 10);
        Expect.prepare(desk, 1, 0, 0, 7, 0, 0);
        desk.step(1);
        return desk;
    }

    private static void both(RelationDesk desk, int first, int second) {
        Expect.same("column(0)", first, desk.column(0));
        Expect.same("column(1)", second, desk.column(1));
    }

    private static void none() {
        Expect.edge("promise 16, before any prepare(): 0", () -> {
            RelationDesk desk = Expect.desk(2, 7, 8);
            Expect.feed(desk, 0, 0);
            both(desk, 0, 0);
        });
        Expect.edge("promise 16, a right prepare(), no step() yet: 0", () -> {
            RelationDesk desk = came();
            Expect.prepare(desk, 0, 0);
            both(desk, 0, 0);
        });
        Expect.edge("promise 16, a wrong prepare() (whatever that did): 0", () -> {
            RelationDesk desk = came();
            Expect.argument("prepare()", () -> Expect.prepare(desk, 11));
            both(desk, 0, 0);
        });
        Expect.edge("promise 16, a prepare() of no words (whatever that did): 0", () -> {
            RelationDesk desk = came();
            Expect.argument("prepare()", () -> desk.prepare());
            both(desk, 0, 0);
        });
        Expect.edge("promise 16, a step() whose fuel was spent, or that ended, and no row: 0", () -> {
            RelationDesk desk = came();
            Expect.prepare(desk, 1, 0, 0, 5, 0, 0);
            Expect.same("step(1)", 2, desk.step(1));
            both(desk, 0, 0);
            Expect.same("step(1)", 0, desk.step(1));
            both(desk, 0, 0);
        });
        Expect.edge("promise 16, a query that is OVER before a row came: 0", () -> {
            RelationDesk desk = Expect.tables(1);
            desk.stage(0, 7);
            Expect.fill(desk, 0, 13);
            Expect.prepare(desk, 7, 0, 0, 3, 0, 0, 0, 0);
            Expect.same("step(500)", 3, desk.step(500));
            both(desk, 0, 0);
        });
    }

    private static void stays() {
        Expect.edge("promise 16, the fuel was spent behind a row: the row that came last", () -> {
            RelationDesk desk = came();
            Expect.prepare(desk, 1, 1, 0, 8, 5, 0, 0, 0, 0);
            Expect.same("step(1)", 1, desk.step(1));
            Expect.same("step(1)", 2, desk.step(1));
            both(desk, 7, 8);
        });
        Expect.edge("promise 16, the fuel was spent on a row that DISTINCT gave before: the row that came last", () -> {
            RelationDesk desk = Expect.desk(2, 7, 8, 9, 10);
            Expect.prepare(desk, 6, 5, 0, 0, 0, 0);
            Expect.same("step(1)", 1, desk.step(1));
            Expect.same("step(1)", 1, desk.step(1));
            Expect.same("step(1)", 2, desk.step(1));
            both(desk, 9, 10);
        });
        Expect.edge("promise 16, the fuel was spent in the second of a CROSS: the row that came last", () -> {
            RelationDesk desk = Expect.desk(1, 7, 9);
            Expect.prepare(desk, 3, 0, 0, 7, 0, 1, 0, 0);
            Expect.same("step(3)", 1, desk.step(3));
            Expect.same("step(3)", 1, desk.step(3));
            both(desk, 7, 7);
            Expect.same("step(1)", 2, desk.step(1));
            Expect.same("step(1)", 2, desk.step(1));
            both(desk, 7, 7);
            Expect.same("step(1)", 1, desk.step(1));
            both(desk, 9, 9);
        });
        Expect.edge("promise 16, the end: the row that came last", () -> {
            RelationDesk desk = came();
            Expect.same("step(5)", 0, desk.step(5));
            both(desk, 7, 8);
            Expect.state("step(5)", () -> desk.step(5));
            both(desk, 7, 8);
        });
        Expect.edge("promise 16, OVER behind 150 rows: the 150th", () -> {
            RelationDesk desk = Expect.desk(1, Expect.range(1, 13));
            Expect.prepare(desk, 6, 3, 0, 0, 0, 0);
            for (int i = 0; i < 150; i++) {
                desk.step(2);
            }
            Expect.same("step(2)", 3, desk.step(2));
            both(desk, 12, 7);
        });
        Expect.edge("promise 16, the query is cancelled and its row gone from the table: the row that came last", () -> {
            RelationDesk desk = came();
            desk.delete(0, 0, 7);
            both(desk, 7, 8);
            desk.change(0, 0, 9, 11);
            both(desk, 7, 8);
        });
        Expect.edge("promise 16, a refused step(), and words: the row that came last", () -> {
            RelationDesk desk = came();
            Expect.argument("step(0)", () -> desk.step(0));
            Expect.feed(desk, 9, 9);
            both(desk, 7, 8);
        });
    }
}
