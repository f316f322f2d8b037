/** Promise 9, commit: how many rows it changed; each counts, each time. */
public final class Promise09Test {
    public static void main(String[] args) {
        refused();
        counts();
        Expect.finish("Promise09Test");
    }

    private static void refused() {
        Expect.edge("promise 9, there is none: refused, on a new object", () -> {
            RelationDesk desk = new RelationDesk();
            Expect.state("commit()", () -> desk.commit());
        });
        Expect.edge("promise 9, there is none: refused behind commit(), and what was done stays", () -> {
            RelationDesk desk = Expect.desk(1, 5);
            desk.begin();
            desk.insert(0);
            desk.commit();
            Expect.state("commit()", () -> desk.commit());
            Expect.state("rollback()", () -> desk.rollback());
            Expect.holds("the rows", desk, 0, 1, 5, 5);
        });
        Expect.edge("promise 9, there is none: refused behind rollback()", () -> {
            RelationDesk desk = Expect.desk(1, 5);
            desk.begin();
            desk.rollback();
            Expect.state("commit()", () -> desk.commit());
        });
    }

    private static void counts() {
        Expect.edge("promise 9, nothing was changed: 0", () -> {
            RelationDesk desk = Expect.desk(1, 5);
            desk.begin();
            desk.delete(0, 0, 6);
            desk.change(0, 0, 6, 7);
            Expect.same("commit()", 0, desk.commit());
        });
        Expect.edge("promise 9, one row put in, changed twice and taken out: 4, each time counts", () -> {
            RelationDesk desk = Expect.tables(1);
            desk.begin();
            desk.insert(0);
            desk.change(0, 0, 0, 1);
            desk.change(0, 0, 1, 0);
            desk.delete(0, 0, 0);
            Expect.same("commit()", 4, desk.commit());
            Expect.holds("the rows", desk, 0, 1);
        });
        Expect.edge("promise 9, rows of several tables: they count together, 120 at most", () -> {
            RelationDesk desk = Expect.tables(1, 1, 1);
            desk.begin();
            Expect.fill(desk, 0, 40);
            desk.change(0, 0, 0, 1);
            Expect.fill(desk, 2, 40);
            Expect.state("insert(1)", () -> desk.insert(1));
            Expect.same("commit()", 120, desk.commit());
        });
        Expect.edge("promise 9, a second transaction: it counts from 0", () -> {
            RelationDesk desk = Expect.tables(1, 1, 1, 1);
            desk.begin();
            for (int t = 0; t < 3; t++) {
                Expect.fill(desk, t, 40);
            }
            Expect.same("commit()", 120, desk.commit());
            desk.begin();
            desk.insert(3);
            Expect.same("commit()", 1, desk.commit());
        });
        Expect.edge("promise 9, writes outside: they do not count", () -> {
            RelationDesk desk = Expect.desk(1, 5, 6);
            desk.begin();
            desk.commit();
            desk.insert(0);
            desk.delete(0, 0, 5);
            desk.begin();
            Expect.same("commit()", 0, desk.commit());
        });
        Expect.edge("promise 9, what it did: it stays, and no later rollback() takes it back", () -> {
            RelationDesk desk = Expect.desk(1, 5, 6);
            desk.begin();
            desk.delete(0, 0, 5);
            desk.insert(0);
            desk.commit();
            desk.begin();
            desk.rollback();
            Expect.holds("the rows", desk, 0, 1, 6, 6);
        });
    }
}
