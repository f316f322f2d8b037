import java.util.function.Supplier;
import java.util.function.ToIntFunction;

/** Promises 2 to 13 and 15: a call that is refused leaves all as it was, as far as any later call can tell. */
public final class RefusedTest {
    private static final String ARGUMENT = "IllegalArgumentException";
    private static final String STATE = "IllegalStateException";

    public static void main(String[] args) {
        outside();
        inTransaction();
        full();
        wrongQueries();
        Expect.finish("RefusedTest");
    }

    /** Table 0 of 40 rows with an index, table 1 of two columns; a query on its way, and a word of the next one. */
    private static RelationDesk busy() {
        RelationDesk desk = Expect.desk(1, Expect.range(1, 40));
        desk.table(2);
        Expect.put(desk, 1, 2, 5, 50, 6, 60);
        desk.index(0, 0);
        ask(desk);
        return desk;
    }

    /** The same in a transaction that has changed so many rows. */
    private static RelationDesk changed(int count) {
        RelationDesk desk = Expect.desk(1, Expect.range(1, 40));
        desk.table(2);
        Expect.put(desk, 1, 2, 5, 50, 6, 60);
        desk.index(0, 0);
        desk.begin();
        for (int i = 0; i < count; i++) {
            desk.change(0, 0, 40, 40);
        }
        ask(desk);
        return desk;
    }

    private static void ask(RelationDesk desk) {
        Expect.prepare(desk, 6, 3, 0, 1, 0, 1);
        desk.step(2);
        desk.step(1);
        desk.stage(0, 7);
        desk.stage(1, 70);
        desk.stage(5, 700);
        desk.feed(9);
    }

    /** What calls of every kind answer from here on, one behind the other. */
    private static String told(RelationDesk desk) {
        StringBuilder all = new StringBuilder();
        tellRow(all, desk);
        tellTables(all, desk);
        for (int i = 0; i < 3; i++) {
            tell(all, "step", () -> desk.step(1));
            tellRow(all, desk);
        }
        tell(all, "feed", () -> desk.feed(0));
        tell(all, "feed", () -> desk.feed(1));
        tell(all, "prepare", () -> desk.prepare());
        tell(all, "step", () -> desk.step(500));
        tellRow(all, desk);
        tell(all, "delete", () -> desk.delete(1, 0, 77));
        tell(all, "insert", () -> desk.insert(1));
        tell(all, "rollback", () -> desk.rollback());
        tell(all, "table", () -> desk.table(6));
        tell(all, "index 0 0", Expect.asCall(() -> desk.index(0, 0)));
        tell(all, "index 1 0", Expect.asCall(() -> desk.index(1, 0)));
        tell(all, "index 1 1", Expect.asCall(() -> desk.index(1, 1)));
        tell(all, "insert", () -> desk.insert(2));
        tellTables(all, desk);
        return all.toString();
    }

    private static void tell(StringBuilder all, String what, Expect.Call call) {
        all.append(what).append(' ').append(Expect.answer(call)).append(", ");
    }

    private static void tellRow(StringBuilder all, RelationDesk desk) {
        tell(all, "place", () -> desk.place());
        tell(all, "cost", () -> desk.cost());
        for (int i = 0; i < 5; i++) {
            int c = i;
            tell(all, "column", () -> desk.column(c));
        }
    }

    private static void tellTables(StringBuilder all, RelationDesk desk) {
        for (int t = 0; t < 3; t++) {
            int table = t;
            tell(all, "rows", () -> desk.cell(table, -1, 0));
            for (int c = 0; c < 6; c++) {
                int column = c;
                tell(all, "cell", () -> desk.cell(table, 0, column));
                tell(all, "cell", () -> desk.cell(table, 2, column));
            }
        }
        for (int k = 0; k <= 40; k++) {
            int row = k;
            tell(all, "cell", () -> desk.cell(0, row, 0));
        }
    }

    private static void refused(String what, String due, Supplier<RelationDesk> made, ToIntFunction<RelationDesk> call) {
        Expect.edge(what + ": refused, and all is left as it was", () -> {
            RelationDesk desk = made.get();
            Expect.same("the call", due, Expect.answer(() -> call.applyAsInt(desk)));
            Expect.same("the call again", due, Expect.answer(() -> call.applyAsInt(desk)));
            Expect.same("what later calls answer", told(made.get()), told(desk));
        });
    }

    private static int indexed(RelationDesk desk, int table, int column) {
        desk.index(table, column);
        return 0;
    }

    private static int staged(RelationDesk desk, int c) {
        desk.stage(c, 99);
        return 0;
    }

    private static int begun(RelationDesk desk) {
        desk.begin();
        return 0;
    }

    private static void outside() {
        Supplier<RelationDesk> busy = RefusedTest::busy;
        refused("promise 2, table(0)", ARGUMENT, busy, desk -> desk.table(0));
        refused("promise 2, table(7)", ARGUMENT, busy, desk -> desk.table(7));
        refused("promise 3, an index of table 2, which there is not", ARGUMENT, busy, desk -> indexed(desk, 2, 0));
        refused("promise 3, an index of column 2, which there is not", ARGUMENT, busy, desk -> indexed(desk, 1, 2));
        refused("promise 3, an index that there is", STATE, busy, desk -> indexed(desk, 0, 0));
        refused("promise 4, cell -1", ARGUMENT, busy, desk -> staged(desk, -1));
        refused("promise 4, cell 6", ARGUMENT, busy, desk -> staged(desk, 6));
        refused("promise 5, table -1", ARGUMENT, busy, desk -> desk.insert(-1));
        refused("promise 5, table 2, which there is not", ARGUMENT, busy, desk -> desk.insert(2));
        refused("promise 5, the 41st row", STATE, busy, desk -> desk.insert(0));
        refused("promise 6, delete in table 2, which there is not", ARGUMENT, busy, desk -> desk.delete(2, 0, 5));
        refused("promise 6, delete by column 2, which there is not", ARGUMENT, busy, desk -> desk.delete(1, 2, 5));
        refused("promise 7, change in table 2, which there is not", ARGUMENT, busy, desk -> desk.change(2, 0, 5, 9));
        refused("promise 7, change of column 2, which there is not", ARGUMENT, busy, desk -> desk.change(1, 2, 5, 9));
        refused("promise 7, change by column 2, which there is not", ARGUMENT, busy, desk -> desk.change(1, 16, 5, 9));
        refused("promise 9, commit() of no transaction", STATE, busy, desk -> desk.commit());
        refused("promise 10, rollback() of no transaction", STATE, busy, desk -> desk.rollback());
        refused("promise 11, cell of table 2, which there is not", ARGUMENT, busy, desk -> desk.cell(2, -1, 0));
        refused("promise 11, cell of row -2", ARGUMENT, busy, desk -> desk.cell(0, -2, 0));
        refused("promise 11, cell of row 40, which there is not", ARGUMENT, busy, desk -> desk.cell(0, 40, 0));
        refused("promise 11, cell of column 1, which there is not", ARGUMENT, busy, desk -> desk.cell(0, 0, 1));
        refused("promise 15, step(0)", ARGUMENT, busy, desk -> desk.step(0));
        refused("promise 15, step(501)", ARGUMENT, busy, desk -> desk.step(501));
    }

    private static void inTransaction() {
        Supplier<RelationDesk> some = () -> changed(3);
        refused("promise 2, table(1) in a transaction", STATE, some, desk -> desk.table(1));
        refused("promise 3, a new index in a transaction", STATE, some, desk -> indexed(desk, 1, 0));
        refused("promise 5, the 41st row in a transaction", STATE, some, desk -> desk.insert(0));
        refused("promise 5, table 2, which there is not, in a transaction", ARGUMENT, some, desk -> desk.insert(2));
        refused("promise 8, begin() in a transaction", STATE, some, RefusedTest::begun);
        Supplier<RelationDesk> most = () -> changed(120);
        refused("promise 5, a row more than 120", STATE, most, desk -> desk.insert(1));
        refused("promise 6, a row taken out more than 120", STATE, most, desk -> desk.delete(1, 0, 5));
        refused("promise 7, a row changed more than 120", STATE, most, desk -> desk.change(1, 0, 5, 9));
        refused("promise 7, a row changed to what it is, more than 120", STATE, most, desk -> desk.change(1, 0, 5, 5));
        refused("promise 8, begin() behind 120 changes", STATE, most, RefusedTest::begun);
    }

    private static RelationDesk sixTables() {
        RelationDesk desk = busy();
        for (int t = 2; t < 6; t++) {
            desk.table(t);
        }
        ask(desk);
        return desk;
    }

    private static RelationDesk sixtyWords() {
        RelationDesk desk = busy();
        for (int count = 1; count < 60; count++) {
            desk.feed(6);
        }
        return desk;
    }

    private static RelationDesk noQuery() {
        RelationDesk desk = busy();
        desk.insert(1);
        return desk;
    }

    private static void full() {
        refused("promise 2, the seventh table", STATE, RefusedTest::sixTables, desk -> desk.table(1));
        refused("promise 12, the 61st word", STATE, RefusedTest::sixtyWords, desk -> desk.feed(0));
        refused("promise 15, step() of no query", STATE, RefusedTest::noQuery, desk -> desk.step(1));
    }

    /** A wrong prepare() does what promises 13, 14, 16 and 17 say, and nothing to tables, transaction and row at hand. */
    private static void wrongQueries() {
        Expect.edge("promise 13, prepare() of wrong words: tables and row at hand are left as they were", () -> {
            RelationDesk desk = busy();
            Expect.argument("prepare()", () -> Expect.prepare(desk, 11));
            Expect.same("rows", 40, desk.cell(0, -1, 0));
            Expect.holds("table 1", desk, 1, 2, 5, 50, 6, 60);
            Expect.same("insert(1)", 3, desk.insert(1));
            Expect.holds("table 1", desk, 1, 2, 5, 50, 6, 60, 7, 70);
            Expect.state("the index", () -> desk.index(0, 0));
            Expect.state("commit()", () -> desk.commit());
        });
        Expect.edge("promise 13, prepare() of wrong words in a transaction: it goes on, with what it counted", () -> {
            RelationDesk desk = changed(3);
            Expect.argument("prepare()", () -> Expect.prepare(desk, 11));
            desk.delete(1, 0, 5);
            Expect.same("rollback()", 4, desk.rollback());
            Expect.holds("table 1", desk, 1, 2, 5, 50, 6, 60);
        });
    }
}
