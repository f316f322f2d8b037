/** Promises 1 to 7 and 11: a new object, table, index, stage, insert, delete, change, cell. */
public final class TablesTest {
    public static void main(String[] args) {
        newObject();
        table();
        index();
        stage();
        insert();
        delete();
        change();
        cell();
        Expect.finish("TablesTest");
    }

    private static void newObject() {
        RelationDesk desk = new RelationDesk();
        Expect.same("place() of a new object", -1, desk.place());
        Expect.same("cost() of a new object", 0, desk.cost());
        Expect.same("column(0) of a new object", 0, desk.column(0));
        Expect.argument("cell of no table", () -> desk.cell(0, -1, 0));
        Expect.state("commit() of a new object", () -> desk.commit());
        Expect.state("rollback() of a new object", () -> desk.rollback());
        Expect.state("step(1) of a new object", () -> desk.step(1));
        Expect.same("first word", 1, desk.feed(0));
        Expect.same("first table", 0, desk.table(1));
        Expect.same("two objects are apart", 0, new RelationDesk().table(1));
    }

    private static void table() {
        RelationDesk desk = new RelationDesk();
        for (int columns : new int[] {0, 7, -1, Integer.MIN_VALUE, Integer.MAX_VALUE}) {
            Expect.argument("table(" + columns + ")", () -> desk.table(columns));
        }
        for (int n = 0; n < 6; n++) {
            Expect.same("table number", n, desk.table(n + 1));
            Expect.same("rows of a new table", 0, desk.cell(n, -1, 0));
        }
        Expect.state("the seventh table", () -> desk.table(1));
        Expect.argument("the seventh table, of no column", () -> desk.table(0));

        RelationDesk busy = Expect.desk(1);
        busy.begin();
        Expect.state("a table in a transaction", () -> busy.table(1));
        Expect.argument("a table of 7 columns in a transaction", () -> busy.table(7));
        busy.commit();
        Expect.same("a table behind a transaction", 1, busy.table(1));
    }

    private static void index() {
        RelationDesk desk = Expect.desk(2, 1, 2);
        Expect.argument("index of table 1", () -> desk.index(1, 0));
        Expect.argument("index of table -1", () -> desk.index(-1, 0));
        Expect.argument("index of column 2", () -> desk.index(0, 2));
        Expect.argument("index of column -1", () -> desk.index(0, -1));
        desk.index(0, 0);
        Expect.state("the same index again", () -> desk.index(0, 0));
        desk.index(0, 1);
        desk.table(6);
        desk.index(1, 0);
        desk.index(1, 5);
        desk.begin();
        Expect.state("an index in a transaction", () -> desk.index(1, 1));
        Expect.argument("an index of no column in a transaction", () -> desk.index(1, 6));
        desk.rollback();
        desk.index(1, 1);
        Expect.state("an index outlives a rollback", () -> desk.index(0, 0));
    }

    private static void stage() {
        RelationDesk desk = new RelationDesk();
        desk.table(6);
        for (int c : new int[] {-1, 6, Integer.MIN_VALUE, Integer.MAX_VALUE}) {
            Expect.argument("stage(" + c + ", 1)", () -> desk.stage(c, 1));
        }
        desk.insert(0);
        Expect.holds("the row at hand is all 0 at first", desk, 0, 6, 0, 0, 0, 0, 0, 0);
        desk.stage(0, Integer.MIN_VALUE);
        desk.stage(5, Integer.MAX_VALUE);
        desk.insert(0);
        desk.stage(0, 9);
        desk.insert(0);
        Expect.holds("the row at hand stays", desk, 0, 6, 0, 0, 0, 0, 0, 0,
            Integer.MIN_VALUE, 0, 0, 0, 0, Integer.MAX_VALUE, 9, 0, 0, 0, 0, Integer.MAX_VALUE);
    }

    private static void insert() {
        RelationDesk desk = new RelationDesk();
        Expect.argument("insert into no table", () -> desk.insert(0));
        desk.table(2);
        desk.table(3);
        Expect.argument("insert(-1)", () -> desk.insert(-1));
        Expect.argument("insert(2)", () -> desk.insert(2));
        desk.stage(0, 7);
        desk.stage(1, 8);
        desk.stage(2, 9);
        Expect.same("insert(0)", 1, desk.insert(0));
        Expect.same("insert(1)", 1, desk.insert(1));
        Expect.holds("as many cells as columns", desk, 0, 2, 7, 8);
        Expect.holds("as many cells as columns", desk, 1, 3, 7, 8, 9);
        for (int rows = 2; rows <= 40; rows++) {
            Expect.same("insert(0)", rows, desk.insert(0));
        }
        Expect.state("row 41", () -> desk.insert(0));
        Expect.same("rows", 40, desk.cell(0, -1, 0));
        Expect.same("another table has room", 2, desk.insert(1));
        desk.delete(0, 0, 7);
        Expect.same("room again", 1, desk.insert(0));
    }

    private static void delete() {
        RelationDesk desk = Expect.desk(2, 1, 10, 2, 20, 1, 30, 3, 10, 1, 40);
        Expect.argument("delete of table 1", () -> desk.delete(1, 0, 0));
        Expect.argument("delete of table -1", () -> desk.delete(-1, 0, 0));
        Expect.argument("delete of column 2", () -> desk.delete(0, 2, 0));
        Expect.argument("delete of column -1", () -> desk.delete(0, -1, 0));
        Expect.same("delete of none", 0, desk.delete(0, 0, 10));
        Expect.same("delete", 3, desk.delete(0, 0, 1));
        Expect.holds("the others stay in order", desk, 0, 2, 2, 20, 3, 10);
        Expect.same("delete by the last column", 1, desk.delete(0, 1, 10));
        Expect.holds("the other stays", desk, 0, 2, 2, 20);
        Expect.same("delete of the last row", 1, desk.delete(0, 0, 2));
        Expect.holds("none are left", desk, 0, 2);
        Expect.same("delete of no rows", 0, desk.delete(0, 0, 2));
    }

    private static void change() {
        RelationDesk desk = Expect.desk(2, 1, 10, 2, 20, 1, 30);
        Expect.argument("change of table 1", () -> desk.change(1, 0, 0, 0));
        Expect.argument("change of table -1", () -> desk.change(-1, 0, 0, 0));
        for (int columns : new int[] {2, 7, 10, 16, 17, -1, -8, -7, 64, Integer.MIN_VALUE, Integer.MAX_VALUE}) {
            Expect.argument("change of columns " + columns, () -> desk.change(0, columns, 0, 0));
        }
        Expect.same("change of none", 0, desk.change(0, 0, 5, 6));
        Expect.same("column 1 by column 0", 2, desk.change(0, 1, 1, -4));
        Expect.holds("column 1 by column 0", desk, 0, 2, 1, -4, 2, 20, 1, -4);
        Expect.same("column 0 by column 1", 1, desk.change(0, 8, 20, 1));
        Expect.holds("column 0 by column 1", desk, 0, 2, 1, -4, 1, 20, 1, -4);
        Expect.same("column 0 by itself", 3, desk.change(0, 0, 1, 2));
        Expect.holds("column 0 by itself", desk, 0, 2, 2, -4, 2, 20, 2, -4);
        Expect.same("to what it is", 3, desk.change(0, 0, 2, 2));
        RelationDesk wide = Expect.desk(6, 1, 2, 3, 4, 5, 6);
        Expect.same("column 5 by column 5", 1, wide.change(0, 45, 6, 9));
        Expect.argument("column 6", () -> wide.change(0, 46, 9, 9));
        Expect.holds("column 5 by column 5", wide, 0, 6, 1, 2, 3, 4, 5, 9);
    }

    private static void cell() {
        RelationDesk desk = Expect.desk(2, 1, 10, 2, 20);
        Expect.same("rows", 2, desk.cell(0, -1, 0));
        Expect.same("rows, whatever the column", 2, desk.cell(0, -1, -9));
        Expect.same("rows, whatever the column", 2, desk.cell(0, -1, 99));
        Expect.same("cell(0, 1, 0)", 2, desk.cell(0, 1, 0));
        Expect.same("cell(0, 0, 1)", 10, desk.cell(0, 0, 1));
        Expect.argument("no such table", () -> desk.cell(1, -1, 0));
        Expect.argument("no such table", () -> desk.cell(-1, 0, 0));
        Expect.argument("no such row", () -> desk.cell(0, 2, 0));
        Expect.argument("no such row", () -> desk.cell(0, -2, 0));
        Expect.argument("no such column", () -> desk.cell(0, 0, 2));
        Expect.argument("no such column", () -> desk.cell(0, 0, -1));
        desk.delete(0, 0, 2);
        Expect.argument("a row taken out", () -> desk.cell(0, 1, 0));
    }
}
