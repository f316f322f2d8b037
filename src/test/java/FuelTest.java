/** Promises 15 to 17: fuel that is spent, queries that are OVER or cancelled, and what stays to be read. */
public final class FuelTest {
    public static void main(String[] args) {
        bounds();
        spent();
        spentInPairs();
        spentInIndexes();
        columns();
        costs();
        distinctOver();
        sortOver();
        groupOver();
        overWithin();
        cancels();
        cancelsNot();
        Expect.finish("FuelTest");
    }

    private static RelationDesk desk(int... words) {
        RelationDesk desk = Expect.desk(1, 5, 6, 7, 8);
        Expect.prepare(desk, words);
        return desk;
    }

    private static void steps(String what, RelationDesk desk, int fuel, int... answers) {
        for (int i = 0; i < answers.length; i++) {
            Expect.same(what + ": step " + i, answers[i], desk.step(fuel));
        }
    }

    private static void bounds() {
        RelationDesk desk = desk(0, 0);
        for (int fuel : new int[] {0, -1, 501, Integer.MIN_VALUE, Integer.MAX_VALUE}) {
            Expect.argument("step(" + fuel + ")", () -> desk.step(fuel));
        }
        Expect.same("the query is still there", 1, desk.step(1));
        Expect.same("500", 1, desk.step(500));
        RelationDesk idle = new RelationDesk();
        Expect.state("no query", () -> idle.step(1));
        Expect.argument("no query and no fuel", () -> idle.step(0));
        Expect.feed(idle, 0, 0);
        Expect.state("words alone are no query", () -> idle.step(1));
    }

    private static void spent() {
        RelationDesk desk = desk(1, 0, 5, 8, 0, 0);
        steps("SELECT", desk, 1, 2, 2, 2, 1, 0);
        Expect.same("cost", 4, desk.cost());
        desk = desk(1, 0, 2, 6, 0, 0);
        steps("SELECT", desk, 1, 1, 2, 2, 0);
        desk = desk(7, 0, 1, 0, 0);
        steps("SORT", desk, 3, 2, 1, 1, 1, 1, 0);
        desk = desk(9, 0, 0);
        steps("COUNT", desk, 4, 1, 0);
        desk = desk(9, 0, 0);
        steps("COUNT", desk, 1, 2, 2, 2, 1, 0);
        desk = desk(10, 0, 0, 0, 0, 0);
        steps("GROUP", desk, 2, 2, 1, 1, 1, 1, 0);
        desk = desk(6, 5, 0, 0, 0, 0);
        steps("DISTINCT", desk, 3, 1, 1, 1, 1, 2, 0);
        Expect.same("fuel that is left is lost", 8, desk.cost());
    }

    private static void spentInPairs() {
        RelationDesk desk = desk(3, 0, 0, 0, 0);
        steps("CROSS", desk, 1, 2, 1, 1, 1, 1, 2, 1, 1, 1, 1, 2);
        Expect.same("first", 6, desk.column(0));
        Expect.same("second", 8, desk.column(1));
        Expect.same("cost", 11, desk.cost());
        desk = desk(4, 0, 0, 0, 0, 7, 0, 1, 0, 0);
        steps("JOIN with SORT", desk, 3, 2, 1, 2, 1);
        Expect.same("first", 6, desk.column(0));
        Expect.same("second", 6, desk.column(1));
    }

    private static void spentInIndexes() {
        RelationDesk desk = Expect.desk(1, 5, 6, 5, 7, 5);
        desk.index(0, 0);
        Expect.prepare(desk, 1, 0, 0, 5, 0, 0);
        steps("index", desk, 1, 1, 1, 1, 0);
        Expect.prepare(desk, 9, 1, 0, 0, 5, 0, 0);
        steps("COUNT by index", desk, 2, 2, 1);
        Expect.same("counted", 3, desk.column(0));
        Expect.same("cost", 3, desk.cost());
    }

    private static void columns() {
        RelationDesk desk = Expect.desk(2, 1, 10, 2, 20);
        Expect.prepare(desk, 1, 0, 0, 1, 0, 0);
        Expect.same("none came", 0, desk.column(0));
        desk.step(1);
        Expect.same("column 0", 1, desk.column(0));
        Expect.same("column 1", 10, desk.column(1));
        for (int i : new int[] {2, 11, 12, -1, Integer.MIN_VALUE, Integer.MAX_VALUE}) {
            Expect.same("no column " + i, 0, desk.column(i));
        }
        Expect.same("no more", 0, desk.step(5));
        Expect.same("it stays behind the end", 1, desk.column(0));
        desk.insert(0);
        Expect.same("it stays behind a write", 10, desk.column(1));
        Expect.feed(desk, 9);
        Expect.same("it stays beside words", 10, desk.column(1));
        Expect.argument("wrong words", () -> desk.prepare());
        Expect.same("gone behind prepare(), whatever that did", 0, desk.column(1));
        Expect.prepare(desk, 0, 0);
        desk.step(1);
        Expect.prepare(desk, 2, 1, 1, 0, 0);
        Expect.same("gone behind prepare()", 0, desk.column(0));
        desk.step(1);
        Expect.same("the new row", 10, desk.column(0));
        Expect.same("a column that an older row had", 0, desk.column(1));
        Expect.prepare(desk, 3, 0, 0, 2, 8, 0, 1, 0, 1, 0, 1, 0, 1, 0, 0);
        desk.step(500);
        Expect.same("column 9", 10, desk.column(9));
        Expect.same("column 10", 0, desk.column(10));
    }

    private static void costs() {
        RelationDesk desk = desk(0, 0);
        Expect.same("at first", 0, desk.cost());
        desk.step(500);
        Expect.same("a row", 1, desk.cost());
        desk.step(500);
        Expect.same("two rows", 2, desk.cost());
        desk.insert(0);
        Expect.same("it stays behind a write", 2, desk.cost());
        Expect.state("cancelled", () -> desk.step(1));
        Expect.same("it stays behind step()", 2, desk.cost());
        Expect.argument("wrong words", () -> desk.prepare());
        Expect.same("gone behind a wrong prepare()", 0, desk.cost());
        Expect.prepare(desk, 9, 0, 0);
        desk.step(3);
        Expect.same("what was taken before the fuel was spent", 3, desk.cost());
        Expect.prepare(desk, 0, 0);
        Expect.same("gone behind prepare()", 0, desk.cost());
    }

    /** Tables of 12 and 13 rows: 156 pairs; and one of 15 and one of 10 rows: 150. */
    private static RelationDesk pairs() {
        RelationDesk desk = Expect.desk(1, Expect.range(1, 12));
        desk.table(1);
        Expect.put(desk, 1, 1, Expect.range(1, 13));
        desk.table(1);
        Expect.put(desk, 2, 1, Expect.range(1, 15));
        desk.table(1);
        Expect.put(desk, 3, 1, Expect.range(1, 10));
        return desk;
    }

    private static void distinctOver() {
        RelationDesk desk = pairs();
        Expect.prepare(desk, 6, 3, 0, 0, 0, 1);
        for (int i = 0; i < 150; i++) {
            Expect.same("DISTINCT gives 150", 1, desk.step(20));
        }
        Expect.same("OVER", 3, desk.step(20));
        Expect.same("the 151st was paid for", 163, desk.cost());
        Expect.same("the last row stays", 12, desk.column(0));
        Expect.same("the last row stays", 7, desk.column(1));
        Expect.state("and gone", () -> desk.step(1));

        RelationDesk enough = pairs();
        Expect.prepare(enough, 9, 6, 5, 3, 0, 2, 0, 3, 3, 0, 2, 0, 3);
        Expect.same("150 distinct ones, twice", 1, enough.step(500));
        Expect.same("150 distinct ones, twice", 150, enough.column(0));
    }

    private static void sortOver() {
        RelationDesk desk = pairs();
        Expect.prepare(desk, 7, 1, 1, 3, 0, 0, 0, 1);
        Expect.same("SORT of 156", 3, desk.step(500));
        Expect.same("the 151st was paid for", 163, desk.cost());
        Expect.same("none came", 0, desk.column(0));
        Expect.state("and gone", () -> desk.step(1));
        Expect.prepare(desk, 7, 1, 1, 3, 0, 2, 0, 3);
        Expect.same("SORT of 150", 1, desk.step(500));
        Expect.same("SORT of 150", 1, desk.column(0));
        Expect.same("SORT of 150", 10, desk.column(1));
        Expect.prepare(desk, 7, 0, 0, 8, 100, 3, 0, 0, 0, 1);
        Expect.same("SORT of 100 of 156", 1, desk.step(500));
    }

    private static void groupOver() {
        RelationDesk desk = Expect.desk(1, Expect.range(1, 40));
        desk.table(1);
        Expect.put(desk, 1, 1, Expect.range(41, 61));
        Expect.prepare(desk, 10, 0, 0, 0, 5, 0, 0, 0, 1);
        Expect.same("GROUP of 61", 3, desk.step(500));
        Expect.same("the 61st was paid for", 61, desk.cost());
        Expect.state("and gone", () -> desk.step(1));
        desk.delete(1, 0, 61);
        Expect.prepare(desk, 9, 10, 0, 0, 0, 5, 0, 0, 5, 0, 1, 0, 0);
        Expect.same("GROUP of 60, of some twice", 1, desk.step(500));
        Expect.same("GROUP of 60, of some twice", 60, desk.column(0));
    }

    private static void overWithin() {
        RelationDesk desk = pairs();
        Expect.prepare(desk, 5, 0, 0, 9, 7, 0, 0, 3, 0, 0, 0, 1);
        steps("a part that is OVER", desk, 500, 1, 1, 1, 1, 1, 1, 1, 1, 1, 1, 1, 1, 3);
        Expect.same("the last row stays", 12, desk.column(0));
        desk = pairs();
        Expect.prepare(desk, 9, 3, 0, 3, 6, 5, 3, 0, 3, 0, 3, 3, 0, 3, 0, 3);
        steps("each time anew, so not OVER", desk, 500, 2, 2, 2, 2, 1);
        Expect.same("ten times 100", 1000, desk.column(0));
        Expect.same("ten times 1 + 2 * 110", 2210, desk.cost());
        Expect.prepare(desk, 8, 0, 7, 0, 0, 3, 0, 0, 0, 1);
        Expect.same("what is not asked is not OVER", 0, desk.step(500));
    }

    private static void cancelled(String what, RelationDesk desk, Expect.Deed deed) {
        Expect.prepare(desk, 0, 0);
        Expect.same(what + ": before it", 1, desk.step(1));
        deed.run();
        Expect.state(what + " cancels", () -> desk.step(1));
        Expect.same(what + ": the row stays", desk.cell(0, 0, 0), desk.column(0));
        Expect.same(what + ": the cost stays", 1, desk.cost());
    }

    private static void cancels() {
        RelationDesk desk = Expect.desk(1, 5, 6, 7);
        cancelled("insert", desk, () -> desk.insert(0));
        cancelled("delete", desk, () -> desk.delete(0, 0, 7));
        cancelled("delete of none", desk, () -> desk.delete(0, 0, 77));
        cancelled("change", desk, () -> desk.change(0, 0, 6, 8));
        cancelled("change of none", desk, () -> desk.change(0, 0, 66, 8));
        cancelled("table", desk, () -> desk.table(1));
        cancelled("insert into another table", desk, () -> desk.insert(1));
        cancelled("index", desk, () -> desk.index(1, 0));
        cancelled("begin", desk, () -> desk.begin());
        cancelled("commit", desk, () -> desk.commit());
        desk.begin();
        cancelled("rollback", desk, () -> desk.rollback());
    }

    private static void cancelsNot() {
        RelationDesk desk = Expect.desk(1, 5, 6, 7);
        desk.index(0, 0);
        Expect.prepare(desk, 0, 0);
        desk.stage(0, 1);
        desk.cell(0, 0, 0);
        desk.feed(0);
        desk.place();
        desk.cost();
        Expect.same("it goes on", 1, desk.step(1));
        Expect.argument("insert", () -> desk.insert(1));
        Expect.argument("delete", () -> desk.delete(0, 1, 5));
        Expect.argument("change", () -> desk.change(0, 8, 5, 6));
        Expect.argument("table", () -> desk.table(0));
        Expect.state("index", () -> desk.index(0, 0));
        Expect.state("commit", () -> desk.commit());
        Expect.state("rollback", () -> desk.rollback());
        Expect.same("what is refused is no write", 1, desk.step(1));
        Expect.same("what is refused is no write", 6, desk.column(0));
    }
}
