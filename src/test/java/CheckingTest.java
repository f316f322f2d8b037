/** Promises 12 to 14: feed, prepare, place, and where a query is wrong. */
public final class CheckingTest {
    public static void main(String[] args) {
        feeding();
        preparing();
        words();
        columns();
        columnsInTime();
        widths();
        depths();
        Expect.finish("CheckingTest");
    }

    /** A desk with tables of 1, 6, 3 and 4 columns. */
    private static RelationDesk desk() {
        return Expect.tables(1, 6, 3, 4);
    }

    private static void right(int columns, int... words) {
        Expect.right(desk(), columns, words);
    }

    private static void wrong(int place, int... words) {
        Expect.wrong(desk(), place, words);
    }

    private static void feeding() {
        RelationDesk desk = desk();
        for (int n = 1; n <= 60; n++) {
            Expect.same("feed", n, desk.feed(n == 1 ? 6 : 0));
        }
        Expect.state("word 61", () -> desk.feed(0));
        Expect.argument("58 words too much", () -> desk.prepare());
        Expect.same("the first one too much", 3, desk.place());
        Expect.same("the words are gone", 1, desk.feed(0));
        desk.feed(0);
        desk.prepare();
        Expect.same("the words are gone", 1, desk.feed(0));
        RelationDesk full = desk();
        Expect.same("60 words", 1, Expect.prepare(full, sixtyWords()));
        Expect.same("60 words", -1, full.place());
    }

    /** A UNION of 19 SCANs and a DISTINCT one, no deeper than 10. */
    private static int[] sixtyWords() {
        int[] words = new int[60];
        int[] at = {0};
        writeUnion(words, at, 20);
        words[at[0] - 2] = 6;
        words[at[0] - 1] = 0;
        return words;
    }

    private static void writeUnion(int[] words, int[] at, int leaves) {
        if (leaves == 1) {
            at[0] += 2;
            return;
        }
        words[at[0]] = 5;
        at[0]++;
        writeUnion(words, at, leaves / 2);
        writeUnion(words, at, leaves - leaves / 2);
    }

    private static void preparing() {
        RelationDesk desk = Expect.desk(1, 4, 5);
        Expect.prepare(desk, 0, 0);
        Expect.feed(desk, 9);
        Expect.same("words wait beside a query", 1, desk.step(1));
        Expect.argument("wrong words", () -> desk.prepare());
        Expect.same("place", 1, desk.place());
        Expect.state("no query is prepared then", () -> desk.step(1));
        Expect.prepare(desk, 0, 0);
        Expect.same("right again", -1, desk.place());
        desk.step(1);
        Expect.prepare(desk, 9, 0, 0);
        Expect.same("the later query runs", 1, desk.step(5));
        Expect.same("the later query runs", 2, desk.column(0));
        Expect.argument("no words", () -> desk.prepare());
        Expect.same("no words", 0, desk.place());
        desk.insert(0);
        Expect.same("the place stays", 0, desk.place());
    }

    private static void words() {
        wrong(0);
        wrong(0, -1);
        wrong(0, 11);
        wrong(0, Integer.MIN_VALUE);
        wrong(0, Integer.MAX_VALUE, 0);
        wrong(1, 0);
        wrong(1, 0, 4);
        wrong(1, 0, -1);
        right(4, 0, 3);
        wrong(2, 0, 0, 0);
        wrong(1, 1);
        wrong(2, 1, 0);
        wrong(2, 1, 0, 6);
        wrong(2, 1, 0, -1, 0, 99);
        wrong(3, 1, 0, 5);
        wrong(4, 1, 0, 0, 7);
        wrong(4, 1, 0, 0, 7, 12);
        right(1, 1, 0, 5, Integer.MIN_VALUE, 0, 0);
        wrong(1, 2);
        wrong(1, 2, 0, 0, 0);
        wrong(1, 2, 9);
        wrong(3, 2, 2, 0);
        right(8, 2, 8, 0, 0, 0, 0, 0, 0, 0, 0, 0, 0);
        wrong(1, 3);
        wrong(3, 3, 0, 0);
        wrong(3, 4, 0, 0);
        wrong(2, 4, 0);
        right(2, 4, 0, 0, 0, 0, 0, 0);
        wrong(1, 5);
        wrong(3, 5, 0, 0);
        wrong(1, 6);
        wrong(1, 7);
        wrong(2, 7, 0);
        wrong(2, 7, 0, 2, 0, 0);
        wrong(2, 7, 0, -1, 0, 0);
        right(1, 7, 0, 1, 0, 0);
        wrong(1, 8);
        wrong(1, 8, 101, 0, 0);
        wrong(1, 8, -1, 0, 0);
        right(1, 8, 100, 0, 0);
        right(6, 8, 0, 0, 1);
        right(1, 9, 0, 1);
        wrong(3, 9, 0, 0, 5);
        wrong(2, 10, 0, 4, 0, 0, 0);
        wrong(2, 10, 0, -1, 0, 0, 0);
        wrong(3, 10, 0, 3);
        right(2, 10, 0, 3, 0, 0, 0);
        wrong(6, 5, 9, 0, 0, 9, 0, 9);
    }

    private static void columns() {
        wrong(0, 1, 1, 0, 0, 0, 0);
        wrong(0, 1, -1, 0, 0, 0, 0);
        right(6, 1, 5, 0, 0, 0, 1);
        wrong(0, 1, 6, 0, 0, 0, 1);
        wrong(0, 2, 2, 5, 6, 0, 1);
        wrong(0, 2, 2, -1, 0, 0, 1);
        wrong(0, 2, 8, 0, 0, 0, 0, 0, 0, 0, 1, 0, 0);
        right(1, 2, 1, 0, 2, 8, 0, 1, 2, 3, 4, 5, 0, 1, 0, 1);
        right(2, 2, 2, 5, 5, 0, 1);
        wrong(0, 4, 1, 0, 0, 0, 0, 1);
        wrong(0, 4, 0, 6, 0, 0, 0, 1);
        wrong(0, 4, 0, -1, 0, 0, 0, 1);
        right(7, 4, 0, 5, 0, 0, 0, 1);
        right(7, 4, 5, 0, 0, 1, 0, 0);
        wrong(0, 7, 3, 0, 0, 2);
        wrong(0, 7, -1, 0, 0, 2);
        right(3, 7, 2, 0, 0, 2);
        wrong(0, 10, 3, 1, 0, 0, 2);
        wrong(0, 10, 0, 1, 3, 0, 2);
        wrong(0, 10, -1, 1, 0, 0, 2);
        wrong(0, 10, 0, 1, -1, 0, 2);
        wrong(0, 10, 0, 0, 3, 0, 2);
        right(2, 10, 2, 1, 2, 0, 2);
        wrong(0, 1, 2, 0, 0, 10, 0, 0, 0, 0, 1);
        wrong(0, 7, 1, 0, 9, 0, 1);
        right(1, 7, 0, 0, 9, 0, 1);
    }

    /** Columns are looked at when a term's parts have been read: not before them, and not behind what follows. */
    private static void columnsInTime() {
        wrong(5, 1, 9, 0, 0, 0, 9);
        wrong(4, 1, 9, 0, 0, 12);
        wrong(6, 1, 9, 0, 0, 6, 0);
        wrong(4, 1, 9, 0, 0, 1, 9, 0, 0, 0, 0);
        wrong(0, 1, 9, 0, 0, 1, 0, 0, 0, 0, 0);
        wrong(0, 1, 9, 0, 0, 0, 0, 0);
        wrong(1, 3, 1, 9, 0, 0, 0, 0, 99);
        wrong(1, 3, 7, 9, 0, 0, 0, 7, 9, 0, 0, 0);
        wrong(5, 4, 9, 0, 0, 0, 7, 9, 0, 0, 0);
        wrong(1, 5, 5, 0, 0, 0, 1, 0, 1);
    }

    private static void widths() {
        right(12, 3, 0, 1, 0, 1);
        wrong(0, 3, 0, 1, 3, 0, 1, 0, 0);
        wrong(0, 4, 0, 0, 0, 1, 3, 0, 1, 0, 0);
        wrong(1, 3, 3, 3, 0, 1, 0, 1, 0, 0, 0, 0);
        right(12, 3, 2, 8, 0, 0, 0, 0, 0, 0, 0, 0, 0, 0, 0, 3);
        wrong(0, 5, 0, 0, 0, 1);
        wrong(0, 5, 0, 1, 0, 2);
        right(3, 5, 0, 2, 2, 3, 0, 0, 0, 0, 0);
        right(2, 5, 10, 0, 0, 0, 0, 0, 3, 0, 0, 0, 0);
        right(1, 5, 9, 0, 1, 0, 0);
    }

    private static void depths() {
        right(1, 6, 6, 6, 6, 6, 6, 6, 6, 6, 0, 0);
        wrong(10, 6, 6, 6, 6, 6, 6, 6, 6, 6, 6, 0, 0);
        wrong(10, 6, 6, 6, 6, 6, 6, 6, 6, 6, 6);
        wrong(11, 5, 6, 6, 6, 6, 6, 6, 6, 6, 0, 0);
        right(1, 5, 6, 6, 6, 6, 6, 6, 6, 6, 0, 0, 0, 0);
        right(1, 5, 0, 0, 6, 6, 6, 6, 6, 6, 6, 6, 0, 0);
        wrong(12, 5, 0, 0, 6, 6, 6, 6, 6, 6, 6, 6, 6, 0, 0);
    }
}
