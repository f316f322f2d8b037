/** Promise 13, prepare: the words are gone, how many columns; when they are wrong no query is prepared. */
public final class Promise13Test {
    public static void main(String[] args) {
        columns();
        wordsAreGone();
        wrong();
        inTime();
        Expect.finish("Promise13Test");
    }

    private static void columns() {
        for (int width = 1; width <= 12; width++) {
            int columns = width;
            Expect.edge("promise 13, " + columns + " columns (1 the least, 12 the most)", () -> {
                RelationDesk desk = Expect.tables(6, Math.max(1, columns - 6), Math.min(columns, 6));
                int[] words = columns <= 6 ? Expect.words(0, 2) : Expect.words(3, 0, 0, 0, 1);
                Expect.same("prepare()", columns, Expect.prepare(desk, words));
            });
        }
        Expect.edge("promise 13, 13 columns: wrong", () -> {
            RelationDesk desk = Expect.tables(6, 1);
            Expect.argument("prepare()", () -> Expect.prepare(desk, 3, 0, 1, 3, 0, 0, 0, 0));
            Expect.same("place()", 0, desk.place());
        });
        Expect.edge("promise 13, a table of no rows: a query of its columns is prepared", () -> {
            RelationDesk desk = Expect.tables(4);
            Expect.same("prepare()", 4, Expect.prepare(desk, 0, 0));
            Expect.same("step(1)", 0, desk.step(1));
        });
    }

    private static void wordsAreGone() {
        Expect.edge("promise 13, the words are gone: a second prepare() has none, and is wrong at 0", () -> {
            RelationDesk desk = Expect.desk(1, 7);
            Expect.prepare(desk, 0, 0);
            Expect.argument("prepare()", () -> desk.prepare());
            Expect.same("place()", 0, desk.place());
        });
        Expect.edge("promise 13, the words are gone when it throws: the next query is its own words alone", () -> {
            RelationDesk desk = Expect.desk(1, 7);
            Expect.argument("prepare()", () -> Expect.prepare(desk, 9, 11));
            Expect.same("feed(0)", 1, desk.feed(0));
            Expect.same("feed(0)", 2, desk.feed(0));
            Expect.same("prepare()", 1, desk.prepare());
            Expect.same("step(1)", 1, desk.step(1));
            Expect.same("column(0)", 7, desk.column(0));
        });
        Expect.edge("promise 13, words too much: they are gone too", () -> {
            RelationDesk desk = Expect.desk(1, 7);
            Expect.argument("prepare()", () -> Expect.prepare(desk, 0, 0, 0, 0));
            Expect.argument("prepare()", () -> desk.prepare());
            Expect.same("place()", 0, desk.place());
        });
    }

    private static void wrong() {
        Expect.edge("promise 13, no words: wrong", () -> {
            RelationDesk desk = Expect.desk(1, 7);
            Expect.argument("prepare()", () -> desk.prepare());
            Expect.state("step(1)", () -> desk.step(1));
        });
        Expect.edge("promise 13, they are wrong: the query from before is not prepared any more", () -> {
            RelationDesk desk = Expect.desk(1, 7, 8);
            Expect.prepare(desk, 0, 0);
            desk.step(1);
            Expect.argument("prepare()", () -> Expect.prepare(desk, 11));
            Expect.state("step(1)", () -> desk.step(1));
        });
        Expect.edge("promise 13, they are wrong at their very end: no query is prepared", () -> {
            RelationDesk desk = Expect.desk(1, 7, 8);
            Expect.argument("prepare()", () -> Expect.prepare(desk, 0, 0, 0));
            Expect.state("step(1)", () -> desk.step(1));
            Expect.argument("prepare()", () -> Expect.prepare(desk, 1, 1, 0, 7, 0, 0));
            Expect.state("step(1)", () -> desk.step(1));
        });
        Expect.edge("promise 13, a right query over one on its way: the new one runs, from its start", () -> {
            RelationDesk desk = Expect.desk(1, 7, 8);
            Expect.prepare(desk, 0, 0);
            desk.step(1);
            Expect.prepare(desk, 0, 0);
            Expect.same("step(1)", 1, desk.step(1));
            Expect.same("column(0)", 7, desk.column(0));
        });
    }

    private static void inTime() {
        Expect.edge("promise 13, a table made behind feed(): there when prepare() looks", () -> {
            RelationDesk desk = new RelationDesk();
            Expect.feed(desk, 0, 0);
            desk.table(3);
            Expect.same("prepare()", 3, desk.prepare());
        });
        Expect.edge("promise 13, a transaction goes on: prepared and run on what the tables are in it", () -> {
            RelationDesk desk = Expect.desk(1, 7);
            desk.begin();
            desk.change(0, 0, 7, 8);
            Expect.gives("SCAN", desk, Expect.words(0, 0), 1, 1, 8);
            desk.rollback();
            Expect.gives("SCAN", desk, Expect.words(0, 0), 1, 1, 7);
        });
    }
}
