/** Promises 8 to 10: begin, commit, rollback, and how much one transaction can change. */
public final class TransactionsTest {
    public static void main(String[] args) {
        commit();
        rollback();
        rollbackOfAll();
        oneAtATime();
        inserts();
        deletesAndChanges();
        outside();
        Expect.finish("TransactionsTest");
    }

    private static void commit() {
        RelationDesk desk = Expect.desk(1, 1, 2, 2);
        desk.begin();
        Expect.same("commit of nothing", 0, desk.commit());
        desk.begin();
        desk.insert(0);
        desk.change(0, 0, 2, 5);
        desk.delete(0, 0, 5);
        Expect.same("each counts, each time", 7, desk.commit());
        Expect.holds("what it did stays", desk, 0, 1, 1);
        desk.begin();
        Expect.same("a new one counts from 0", 0, desk.commit());
    }

    private static void rollback() {
        RelationDesk desk = Expect.desk(2, 1, 10, 2, 20, 1, 30);
        desk.table(1);
        desk.insert(1);
        desk.begin();
        desk.delete(0, 0, 1);
        desk.stage(0, 9);
        desk.insert(0);
        desk.change(0, 1, 9, 7);
        desk.insert(1);
        desk.insert(1);
        Expect.same("rollback", 6, desk.rollback());
        Expect.holds("as it was", desk, 0, 2, 1, 10, 2, 20, 1, 30);
        Expect.holds("as it was", desk, 1, 1, 1);
        desk.insert(1);
        Expect.same("the row at hand is no table's", 9, desk.cell(1, 1, 0));
        desk.begin();
        Expect.same("rollback of nothing", 0, desk.rollback());
        Expect.holds("what came before it stays", desk, 1, 1, 1, 9);
        desk.begin();
        desk.delete(1, 0, 9);
        desk.commit();
        desk.begin();
        desk.rollback();
        Expect.holds("what was committed stays", desk, 1, 1, 1);
    }

    /** The sixth table, of the most rows and columns, to its last cell. */
    private static void rollbackOfAll() {
        RelationDesk desk = new RelationDesk();
        for (int t = 0; t < 6; t++) {
            desk.table(6);
        }
        for (int c = 0; c < 6; c++) {
            desk.stage(c, c + 1);
        }
        for (int k = 0; k < 40; k++) {
            desk.insert(5);
        }
        desk.insert(0);
        desk.begin();
        desk.change(5, 8 * 5 + 5, 6, 7);
        desk.delete(5, 0, 1);
        desk.delete(0, 0, 1);
        Expect.same("rows in it", 0, desk.cell(5, -1, 0));
        Expect.same("rollback", 81, desk.rollback());
        Expect.same("table 0", 1, desk.cell(0, -1, 0));
        Expect.same("table 5", 40, desk.cell(5, -1, 0));
        Expect.same("its last cell", 6, desk.cell(5, 39, 5));
        Expect.same("tables between", 0, desk.cell(4, -1, 0));
    }

    private static void oneAtATime() {
        RelationDesk desk = Expect.desk(1, 1);
        Expect.state("commit of none", () -> desk.commit());
        Expect.state("rollback of none", () -> desk.rollback());
        desk.begin();
        desk.insert(0);
        Expect.state("begin in one", () -> desk.begin());
        desk.insert(0);
        Expect.same("it goes on", 2, desk.rollback());
        Expect.holds("it goes on", desk, 0, 1, 1);
        Expect.state("rollback behind the end", () -> desk.rollback());
        Expect.state("commit behind the end", () -> desk.commit());
    }

    /** 120 rows: 40 in three tables each. */
    private static void inserts() {
        RelationDesk desk = new RelationDesk();
        for (int t = 0; t < 4; t++) {
            desk.table(1);
        }
        desk.begin();
        for (int i = 0; i < 120; i++) {
            Expect.same("insert in a transaction", i % 40 + 1, desk.insert(i / 40));
        }
        Expect.state("row 121", () -> desk.insert(3));
        Expect.argument("row 121, into no table", () -> desk.insert(4));
        Expect.state("one more", () -> desk.delete(0, 0, 0));
        Expect.same("none more", 0, desk.delete(0, 0, 1));
        Expect.same("none more", 0, desk.change(0, 0, 1, 0));
        Expect.same("commit", 120, desk.commit());
        Expect.same("room behind it", 1, desk.insert(3));
    }

    private static void deletesAndChanges() {
        RelationDesk desk = Expect.desk(1, new int[38]);
        Expect.put(desk, 0, 1, 5, 6);
        desk.begin();
        Expect.same("38", 38, desk.change(0, 0, 0, 1));
        Expect.same("76", 38, desk.change(0, 0, 1, 1));
        Expect.same("114", 38, desk.change(0, 0, 1, 2));
        Expect.state("152", () -> desk.change(0, 0, 2, 3));
        Expect.same("nothing is done then", 2, desk.cell(0, 0, 0));
        Expect.state("152", () -> desk.delete(0, 0, 2));
        Expect.same("nothing is done then", 40, desk.cell(0, -1, 0));
        Expect.argument("a wrong column comes first", () -> desk.delete(0, 1, 2));
        Expect.argument("a wrong column comes first", () -> desk.change(0, 1, 2, 2));
        Expect.same("115", 1, desk.delete(0, 0, 5));
        for (int i = 0; i < 5; i++) {
            Expect.same("116 .. 120", 1, desk.change(0, 0, 6, 6));
        }
        Expect.state("121", () -> desk.change(0, 0, 6, 6));
        Expect.state("121", () -> desk.insert(0));
        Expect.same("rollback", 120, desk.rollback());
        Expect.same("as it was", 0, desk.cell(0, 0, 0));
        Expect.same("as it was", 5, desk.cell(0, 38, 0));
        Expect.same("as it was", 40, desk.cell(0, -1, 0));
    }

    private static void outside() {
        RelationDesk desk = Expect.desk(1, new int[40]);
        for (int i = 0; i < 5; i++) {
            Expect.same("no bound outside", 40, desk.change(0, 0, i, i + 1));
        }
        desk.begin();
        Expect.same("changes from before do not count", 0, desk.commit());
    }
}
