/** Promise 1, a new object: no tables, no transaction, no query. */
public final class Promise01Test {
    public static void main(String[] args) {
        noTables();
        noTransaction();
        noQuery();
        objectsAreApart();
        Expect.finish("Promise01Test");
    }

    private static void noTables() {
        Expect.edge("promise 1, no tables: table 0 is not there for any call that names one", () -> {
            RelationDesk desk = new RelationDesk();
            Expect.argument("cell(0, -1, 0)", () -> desk.cell(0, -1, 0));
            Expect.argument("insert(0)", () -> desk.insert(0));
            Expect.argument("delete(0, 0, 0)", () -> desk.delete(0, 0, 0));
            Expect.argument("change(0, 0, 0, 0)", () -> desk.change(0, 0, 0, 0));
            Expect.argument("index(0, 0)", () -> desk.index(0, 0));
        });
        Expect.edge("promise 1, no tables: a SCAN of table 0 is wrong", () -> {
            RelationDesk desk = new RelationDesk();
            Expect.argument("prepare()", () -> Expect.prepare(desk, 0, 0));
            Expect.same("place()", 1, desk.place());
        });
        Expect.edge("promise 1, no tables: the first one is number 0", () ->
            Expect.same("table(3)", 0, new RelationDesk().table(3)));
    }

    private static void noTransaction() {
        Expect.edge("promise 1, no transaction: there is none to commit", () -> {
            RelationDesk desk = new RelationDesk();
            Expect.state("commit()", () -> desk.commit());
        });
        Expect.edge("promise 1, no transaction: there is none to roll back", () -> {
            RelationDesk desk = new RelationDesk();
            Expect.state("rollback()", () -> desk.rollback());
        });
        Expect.edge("promise 1, no transaction: one can begin, and it has changed 0 rows", () -> {
            RelationDesk desk = new RelationDesk();
            desk.begin();
            Expect.same("commit()", 0, desk.commit());
        });
    }

    private static void noQuery() {
        Expect.edge("promise 1, no query: step() is refused", () -> {
            RelationDesk desk = new RelationDesk();
            Expect.state("step(1)", () -> desk.step(1));
        });
        Expect.edge("promise 1, no query: place() is -1, cost() and every column() 0", () -> {
            RelationDesk desk = new RelationDesk();
            Expect.same("place()", -1, desk.place());
            Expect.same("cost()", 0, desk.cost());
            for (int i = -1; i <= 12; i++) {
                Expect.same("column(" + i + ")", 0, desk.column(i));
            }
        });
        Expect.edge("promise 1, no query: no word is there, the first one is word 1", () ->
            Expect.same("feed(0)", 1, new RelationDesk().feed(0)));
        Expect.edge("promise 1, no query: prepare() of no words is wrong at 0", () -> {
            RelationDesk desk = new RelationDesk();
            Expect.argument("prepare()", () -> desk.prepare());
            Expect.same("place()", 0, desk.place());
        });
    }

    private static void objectsAreApart() {
        Expect.edge("promise 1, a new object beside a used one: it has nothing of that one", () -> {
            RelationDesk used = Expect.desk(1, 5);
            used.index(0, 0);
            used.begin();
            Expect.prepare(used, 0, 0);
            used.step(1);
            used.feed(0);
            RelationDesk desk = new RelationDesk();
            Expect.same("cost()", 0, desk.cost());
            Expect.same("column(0)", 0, desk.column(0));
            Expect.state("step(1)", () -> desk.step(1));
            Expect.state("commit()", () -> desk.commit());
            Expect.same("feed(0)", 1, desk.feed(0));
            Expect.same("table(1)", 0, desk.table(1));
            desk.index(0, 0);
            desk.insert(0);
            Expect.holds("its row at hand", desk, 0, 1, 0);
            Expect.holds("the used one's table", used, 0, 1, 5);
        });
    }
}
