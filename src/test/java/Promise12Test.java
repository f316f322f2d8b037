/** Promise 12, feed: 60 words at most, whatever they are. */
public final class Promise12Test {
    public static void main(String[] args) {
        sixty();
        stay();
        Expect.finish("Promise12Test");
    }

    /** Of 59 words, 20 SCANs of table 0 under 19 UNIONs, no more than 10 within one another. */
    static int[] unions() {
        int[] words = new int[59];
        tellUnion(words, 0, 20);
        return words;
    }

    /** A UNION of so many SCANs; where the next word stands. */
    private static int tellUnion(int[] words, int at, int scans) {
        if (scans == 1) {
            return at + 2;
        }
        words[at] = 5;
        int behind = tellUnion(words, at + 1, scans / 2);
        return tellUnion(words, behind, scans - scans / 2);
    }

    private static void sixty() {
        Expect.edge("promise 12, words 1 .. 60: taken, and counted", () -> {
            RelationDesk desk = new RelationDesk();
            for (int count = 1; count <= 60; count++) {
                Expect.same("feed(0)", count, desk.feed(0));
            }
        });
        Expect.edge("promise 12, there are 60: refused, again and again", () -> {
            RelationDesk desk = new RelationDesk();
            Expect.feed(desk, new int[60]);
            Expect.state("feed(0)", () -> desk.feed(0));
            Expect.state("feed(-1)", () -> desk.feed(-1));
        });
        Expect.edge("promise 12, there are 60: what is refused is no word of the query, which is right", () -> {
            RelationDesk desk = Expect.desk(1, 7);
            desk.feed(6);
            Expect.feed(desk, unions());
            Expect.state("feed(11)", () -> desk.feed(11));
            Expect.same("prepare()", 1, desk.prepare());
            Expect.same("place()", -1, desk.place());
            Expect.same("step(20)", 1, desk.step(20));
            Expect.same("column(0)", 7, desk.column(0));
            Expect.same("step(20)", 0, desk.step(20));
            Expect.same("cost()", 20, desk.cost());
        });
        Expect.edge("promise 12, the least and the greatest int, and words of no kind: all are taken", () -> {
            RelationDesk desk = new RelationDesk();
            Expect.same("feed", 1, desk.feed(Integer.MIN_VALUE));
            Expect.same("feed", 2, desk.feed(Integer.MAX_VALUE));
            Expect.same("feed", 3, desk.feed(11));
            Expect.same("feed", 4, desk.feed(-1));
        });
    }

    private static void stay() {
        Expect.edge("promise 12, behind prepare() of 60 words: the next one is word 1", () -> {
            RelationDesk desk = Expect.desk(1, 7);
            desk.feed(6);
            Expect.feed(desk, unions());
            desk.prepare();
            Expect.same("feed(0)", 1, desk.feed(0));
        });
        Expect.edge("promise 12, behind prepare() of 60 wrong words: the next one is word 1", () -> {
            RelationDesk desk = new RelationDesk();
            Expect.feed(desk, new int[60]);
            Expect.argument("prepare()", () -> desk.prepare());
            Expect.same("feed(0)", 1, desk.feed(0));
        });
        Expect.edge("promise 12, other calls between two words: the words stay", () -> {
            RelationDesk desk = Expect.desk(1, 7);
            Expect.prepare(desk, 0, 0);
            Expect.same("feed(9)", 1, desk.feed(9));
            desk.step(1);
            desk.begin();
            desk.insert(0);
            desk.delete(0, 0, 8);
            desk.change(0, 0, 8, 9);
            desk.rollback();
            Expect.same("feed(0)", 2, desk.feed(0));
            desk.index(0, 0);
            desk.table(1);
            desk.begin();
            desk.commit();
            desk.stage(0, 1);
            desk.cell(0, 0, 0);
            desk.place();
            desk.cost();
            desk.column(0);
            Expect.same("feed(0)", 3, desk.feed(0));
            Expect.same("prepare()", 1, desk.prepare());
            Expect.same("step(1)", 1, desk.step(1));
            Expect.same("COUNT of one row", 1, desk.column(0));
        });
        Expect.edge("promise 12, a query that is prepared: it is not the words that are fed", () -> {
            RelationDesk desk = Expect.desk(1, 7, 8);
            Expect.prepare(desk, 0, 0);
            Expect.feed(desk, 9, 9, 9);
            Expect.same("step(1)", 1, desk.step(1));
            Expect.same("step(1)", 1, desk.step(1));
            Expect.same("column(0)", 8, desk.column(0));
            Expect.same("place()", -1, desk.place());
        });
    }
}
