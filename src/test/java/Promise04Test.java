/** Promise 4, stage: cells 0 .. 5 of the row at hand, all 0 at first; it stays. */
public final class Promise04Test {
    public static void main(String[] args) {
        cells();
        stays();
        Expect.finish("Promise04Test");
    }

    private static void cells() {
        Expect.edge("promise 4, at first: all six cells are 0", () -> {
            RelationDesk desk = Expect.tables(6);
            desk.insert(0);
            Expect.holds("the row", desk, 0, 6, 0, 0, 0, 0, 0, 0);
        });
        for (int c = 0; c <= 5; c++) {
            int cell = c;
            Expect.edge("promise 4, cell " + c + " (0 the least, 5 the most): set, and no other", () -> {
                RelationDesk desk = Expect.tables(6);
                desk.stage(cell, 9);
                desk.insert(0);
                for (int other = 0; other <= 5; other++) {
                    Expect.same("cell " + other, other == cell ? 9 : 0, desk.cell(0, 0, other));
                }
            });
        }
        for (int c : Expect.outside(0, 5)) {
            Expect.edge("promise 4, cell " + c + ": there is none such, and the row at hand is as it was", () -> {
                RelationDesk desk = Expect.tables(6);
                for (int set = 0; set <= 5; set++) {
                    desk.stage(set, set + 1);
                }
                Expect.argument("stage(" + c + ", 9)", () -> desk.stage(c, 9));
                desk.insert(0);
                Expect.holds("the row", desk, 0, 6, 1, 2, 3, 4, 5, 6);
            });
        }
        Expect.edge("promise 4, the least and the greatest int: taken as they are", () -> {
            RelationDesk desk = Expect.tables(2);
            desk.stage(0, Integer.MIN_VALUE);
            desk.stage(1, Integer.MAX_VALUE);
            desk.insert(0);
            Expect.holds("the row", desk, 0, 2, Integer.MIN_VALUE, Integer.MAX_VALUE);
        });
        Expect.edge("promise 4, no tables, or narrow ones: all six cells are there nonetheless", () -> {
            RelationDesk desk = new RelationDesk();
            desk.stage(5, 7);
            Expect.same("table(1)", 0, desk.table(1));
            desk.stage(4, 6);
            Expect.same("table(6)", 1, desk.table(6));
            desk.insert(1);
            Expect.holds("the row", desk, 1, 6, 0, 0, 0, 0, 6, 7);
        });
    }

    private static void stays() {
        Expect.edge("promise 4, behind insert(): the row at hand stays", () -> {
            RelationDesk desk = Expect.tables(2, 3);
            desk.stage(0, 1);
            desk.stage(2, 3);
            desk.insert(0);
            desk.stage(1, 2);
            desk.insert(1);
            desk.insert(0);
            Expect.holds("table 0", desk, 0, 2, 1, 0, 1, 2);
            Expect.holds("table 1", desk, 1, 3, 1, 2, 3);
        });
        Expect.edge("promise 4, behind a refused insert(): the row at hand stays", () -> {
            RelationDesk desk = Expect.tables(1, 1);
            desk.stage(0, 4);
            Expect.fill(desk, 0, 40);
            Expect.state("insert(0)", () -> desk.insert(0));
            Expect.argument("insert(2)", () -> desk.insert(2));
            desk.insert(1);
            Expect.holds("table 1", desk, 1, 1, 4);
        });
        Expect.edge("promise 4, behind delete(), change(), commit() and rollback(): the row at hand stays", () -> {
            RelationDesk desk = Expect.tables(1);
            desk.stage(0, 4);
            desk.insert(0);
            desk.change(0, 0, 4, 5);
            desk.begin();
            desk.stage(0, 6);
            desk.delete(0, 0, 5);
            desk.rollback();
            desk.insert(0);
            desk.begin();
            desk.commit();
            desk.insert(0);
            Expect.holds("the rows", desk, 0, 1, 5, 6, 6);
        });
        Expect.edge("promise 4, a row that is in a table: it does not change with the row at hand", () -> {
            RelationDesk desk = Expect.tables(1);
            desk.stage(0, 4);
            desk.insert(0);
            desk.stage(0, 5);
            Expect.holds("the row", desk, 0, 1, 4);
        });
    }
}
