/** Promise 15, and the document's words on what cancels a query that is prepared, by promises 2, 3 and 5 to 10. */
public final class CancelTest {
    /** A call on a desk. */
    private interface On {
        void run(RelationDesk desk);
    }

    public static void main(String[] args) {
        cancels();
        cancelsNot();
        leaves();
        Expect.finish("CancelTest");
    }

    /** Tables 0 (rows 5, 6, 7) and 1 (no rows). */
    private static RelationDesk desk() {
        RelationDesk desk = Expect.desk(1, 5, 6, 7);
        desk.table(1);
        return desk;
    }

    private static RelationDesk begun() {
        RelationDesk desk = desk();
        desk.begin();
        return desk;
    }

    /** A query just prepared, one that gave a row, and one whose fuel was spent. */
    private static void cancel(String what, boolean inTransaction, On call) {
        Expect.edge(what + ": cancels a query that has not been asked yet", () -> {
            RelationDesk desk = inTransaction ? begun() : desk();
            Expect.prepare(desk, 0, 0);
            call.run(desk);
            Expect.state("step(1)", () -> desk.step(1));
        });
        Expect.edge(what + ": cancels a query on its way", () -> {
            RelationDesk desk = inTransaction ? begun() : desk();
            Expect.prepare(desk, 0, 0);
            Expect.same("step(1)", 1, desk.step(1));
            call.run(desk);
            Expect.state("step(1)", () -> desk.step(1));
            Expect.same("column(0) stays", 5, desk.column(0));
            Expect.same("cost() stays", 1, desk.cost());
        });
        Expect.edge(what + ": cancels a query whose fuel was spent", () -> {
            RelationDesk desk = inTransaction ? begun() : desk();
            Expect.prepare(desk, 7, 0, 0, 0, 0);
            Expect.same("step(1)", 2, desk.step(1));
            call.run(desk);
            Expect.state("step(1)", () -> desk.step(1));
            Expect.same("cost() stays", 1, desk.cost());
        });
    }

    private static void cancels() {
        cancel("promise 2, a new table", false, desk -> desk.table(1));
        cancel("promise 3, a new index of the query's table", false, desk -> desk.index(0, 0));
        cancel("promise 3, a new index of another table", false, desk -> desk.index(1, 0));
        for (boolean inTransaction : new boolean[] {false, true}) {
            String where = inTransaction ? " in a transaction" : "";
            cancel("promise 5, insert()" + where, inTransaction, desk -> desk.insert(0));
            cancel("promise 5, insert() into another table" + where, inTransaction, desk -> desk.insert(1));
            cancel("promise 6, delete()" + where, inTransaction, desk -> desk.delete(0, 0, 7));
            cancel("promise 6, delete() of no row" + where, inTransaction, desk -> desk.delete(0, 0, 77));
            cancel("promise 6, delete() from an empty table" + where, inTransaction, desk -> desk.delete(1, 0, 0));
            cancel("promise 7, change()" + where, inTransaction, desk -> desk.change(0, 0, 7, 8));
            cancel("promise 7, change() of no row" + where, inTransaction, desk -> desk.change(0, 0, 77, 8));
            cancel("promise 7, change() to what it is" + where, inTransaction, desk -> desk.change(0, 0, 7, 7));
        }
        cancel("promise 8, begin()", false, desk -> desk.begin());
        cancel("promise 9, commit() of nothing", true, desk -> desk.commit());
        cancel("promise 10, rollback() of nothing", true, desk -> desk.rollback());
    }

    private static void goesOn(String what, boolean inTransaction, On call) {
        Expect.edge(what + ": the query goes on", () -> {
            RelationDesk desk = inTransaction ? begun() : desk();
            Expect.prepare(desk, 0, 0);
            Expect.same("step(1)", 1, desk.step(1));
            call.run(desk);
            Expect.same("step(1)", 1, desk.step(1));
            Expect.same("column(0)", 6, desk.column(0));
            Expect.same("cost()", 2, desk.cost());
        });
    }

    private static void cancelsNot() {
        goesOn("promise 4, stage(), which is no write", false, desk -> desk.stage(0, 9));
        goesOn("promise 11, cell(), which is no write", false, desk -> desk.cell(0, -1, 0));
        goesOn("promise 12, feed(), which is no query yet", false, desk -> desk.feed(11));
        goesOn("promise 14, place()", false, desk -> desk.place());
        goesOn("promise 16, column()", false, desk -> desk.column(0));
        goesOn("promise 17, cost()", false, desk -> desk.cost());
        goesOn("promise 2, a table that is refused", false, desk -> Expect.argument("table(7)", () -> desk.table(7)));
        goesOn("promise 2, a table in a transaction, refused", true, desk -> Expect.state("table(1)", () -> desk.table(1)));
        goesOn("promise 3, an index that is refused", false, desk -> Expect.argument("index", () -> desk.index(0, 1)));
        goesOn("promise 3, an index in a transaction, refused", true, desk -> Expect.state("index", () -> desk.index(0, 0)));
        goesOn("promise 5, insert() that is refused", false, desk -> Expect.argument("insert(2)", () -> desk.insert(2)));
        goesOn("promise 6, delete() that is refused", false, desk -> Expect.argument("delete", () -> desk.delete(0, 1, 5)));
        goesOn("promise 7, change() that is refused", false, desk -> Expect.argument("change", () -> desk.change(0, 8, 5, 6)));
        goesOn("promise 8, begin() that is refused", true, desk -> Expect.state("begin()", () -> desk.begin()));
        goesOn("promise 9, commit() that is refused", false, desk -> Expect.state("commit()", () -> desk.commit()));
        goesOn("promise 10, rollback() that is refused", false, desk -> Expect.state("rollback()", () -> desk.rollback()));
        goesOn("promise 15, step() that is refused", false, desk -> Expect.argument("step(0)", () -> desk.step(0)));
    }

    private static void leaves() {
        Expect.edge("promise 13, a query that is cancelled: prepare() of the same words prepares it anew", () -> {
            RelationDesk desk = desk();
            Expect.prepare(desk, 0, 0);
            desk.step(1);
            desk.delete(0, 0, 5);
            Expect.prepare(desk, 0, 0);
            Expect.same("step(1)", 1, desk.step(1));
            Expect.same("column(0)", 6, desk.column(0));
        });
        Expect.edge("promise 15, no query is prepared: what cancels one does nothing more", () -> {
            RelationDesk desk = desk();
            Expect.feed(desk, 0);
            desk.insert(0);
            desk.begin();
            desk.commit();
            Expect.same("the words stay", 2, desk.feed(0));
            Expect.same("place()", -1, desk.place());
            Expect.same("prepare()", 1, desk.prepare());
        });
    }
}
