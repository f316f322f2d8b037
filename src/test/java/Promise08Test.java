/** Promise 8, begin: one transaction at a time. */
public final class Promise08Test {
    public static void main(String[] args) {
        Expect.edge("promise 8, one goes on: refused, and that one goes on with what it kept and counted", () -> {
            RelationDesk desk = Expect.desk(1, 5);
            desk.begin();
            desk.insert(0);
            Expect.state("begin()", () -> desk.begin());
            desk.insert(0);
            Expect.state("begin()", () -> desk.begin());
            Expect.same("rollback()", 2, desk.rollback());
            Expect.holds("the rows", desk, 0, 1, 5);
        });
        Expect.edge("promise 8, no tables: it begins, and goes on", () -> {
            RelationDesk desk = new RelationDesk();
            desk.begin();
            Expect.state("begin()", () -> desk.begin());
            Expect.same("rollback()", 0, desk.rollback());
        });
        Expect.edge("promise 8, behind commit(): another one begins, from what the tables are then", () -> {
            RelationDesk desk = Expect.desk(1, 5);
            desk.begin();
            desk.change(0, 0, 5, 6);
            desk.commit();
            desk.begin();
            desk.change(0, 0, 6, 7);
            Expect.same("rollback()", 1, desk.rollback());
            Expect.holds("the rows", desk, 0, 1, 6);
        });
        Expect.edge("promise 8, behind rollback(): another one begins, from what the tables are then", () -> {
            RelationDesk desk = Expect.desk(1, 5);
            desk.begin();
            desk.change(0, 0, 5, 6);
            desk.rollback();
            desk.insert(0);
            desk.begin();
            desk.delete(0, 0, 5);
            Expect.same("rollback()", 2, desk.rollback());
            Expect.holds("the rows", desk, 0, 1, 5, 5);
        });
        Expect.edge("promise 8, six tables of 40 rows of 6 columns: it keeps what all of them were", () -> {
            RelationDesk desk = Expect.tables(6, 6, 6, 6, 6, 6);
            for (int t = 0; t < 6; t++) {
                for (int c = 0; c < 6; c++) {
                    desk.stage(c, 10 * t + c);
                }
                Expect.fill(desk, t, 40);
            }
            desk.begin();
            desk.delete(0, 0, 0);
            desk.change(2, 8 * 5 + 5, 25, -1);
            desk.delete(5, 5, 55);
            Expect.same("rollback()", 120, desk.rollback());
            for (int i = 0; i < 36; i++) {
                int due = 10 * (i / 6) + i % 6;
                Expect.same("a cell of row 0", due, desk.cell(i / 6, 0, i % 6));
                Expect.same("a cell of row 20", due, desk.cell(i / 6, 20, i % 6));
                Expect.same("a cell of row 39", due, desk.cell(i / 6, 39, i % 6));
            }
        });
        Expect.edge("promise 8, 40 rows of 6 columns, each cell another one: it keeps every cell", () -> {
            RelationDesk desk = Expect.tables(6);
            for (int k = 0; k < 40; k++) {
                desk.stage(k % 6, 100 + k);
                desk.insert(0);
            }
            desk.begin();
            desk.delete(0, 0, 0);
            desk.change(0, 0, 100, -1);
            desk.rollback();
            for (int i = 0; i < 240; i++) {
                int k = i / 6;
                int c = i % 6;
                int due = k < c ? 0 : 100 + k - Math.floorMod(k - c, 6);
                Expect.same("cell " + c + " of row " + k, due, desk.cell(0, k, c));
            }
        });
        Expect.finish("Promise08Test");
    }
}
