import java.util.Arrays;

/** Promises 13 and 14, and the document's words on where a query is WRONG: every number's bounds, and every length. */
public final class TermsWordsTest {
    private static final String[] KINDS = {
        "SCAN", "SELECT", "PROJECT", "CROSS", "JOIN", "UNION", "DISTINCT", "SORT", "LIMIT", "COUNT", "GROUP",
    };
    /** One right query of each kind, over the desk's tables; its width. */
    private static final int[][] RIGHT = {
        {0, 1}, {1, 5, 0, 7, 0, 1}, {2, 2, 5, 0, 0, 1}, {3, 0, 1, 0, 0}, {4, 5, 2, 0, 1, 0, 2}, {5, 0, 0, 9, 0, 1},
        {6, 0, 1}, {7, 5, 1, 0, 1}, {8, 3, 0, 1}, {9, 0, 1}, {10, 5, 1, 4, 0, 1},
    };
    private static final int[] WIDTHS = {6, 6, 2, 7, 9, 1, 6, 6, 6, 1, 2};

    public static void main(String[] args) {
        kinds();
        lengths();
        numbers();
        selectValues();
        projects();
        order();
        Expect.finish("TermsWordsTest");
    }

    /** Tables of 1, 6 and 3 columns. */
    private static RelationDesk desk() {
        return Expect.tables(1, 6, 3);
    }

    private static void right(int columns, int... words) {
        Expect.right(desk(), columns, words);
    }

    private static void wrong(int place, int... words) {
        Expect.wrong(desk(), place, words);
    }

    private static void kinds() {
        for (int kind = 0; kind <= 10; kind++) {
            int k = kind;
            Expect.edge("promise 13, kind " + k + " (0 the least, 10 the greatest): there is one, " + KINDS[k], () ->
                right(WIDTHS[k], RIGHT[k]));
        }
        for (int kind : Expect.outside(0, 10)) {
            Expect.edge("promise 14, kind " + kind + " (not 0 .. 10): wrong at that word", () -> {
                wrong(0, kind, 0);
                wrong(0, kind);
                wrong(1, 6, kind, 0);
                wrong(3, 3, 0, 0, kind, 0);
            });
        }
    }

    private static void lengths() {
        for (int kind = 0; kind <= 10; kind++) {
            int[] words = RIGHT[kind];
            Expect.edge("promise 14, " + KINDS[kind] + " with words missing at its end: wrong at its length, 0 too", () -> {
                for (int length = 0; length < words.length; length++) {
                    wrong(length, Arrays.copyOf(words, length));
                }
            });
            Expect.edge("promise 14, " + KINDS[kind] + " with one or more words too much: wrong at the first of them", () -> {
                for (int more : new int[] {0, 11, -1, Integer.MIN_VALUE}) {
                    wrong(words.length, Expect.with(Arrays.copyOf(words, words.length + 1), words.length, more));
                }
                wrong(words.length, Arrays.copyOf(words, 60));
            });
        }
        Expect.edge("promise 14, a query of two right terms side by side: the second one is too much", () ->
            wrong(2, 0, 0, 0, 0));
    }

    /** The number at a place of a right query: its least and its greatest, and the first ones that it can't be. */
    private static void bounds(String what, int kind, int at, int least, int most) {
        for (int word : new int[] {least, most}) {
            Expect.edge("promise 13, " + KINDS[kind] + "'s " + what + " " + word + " (of " + least + " .. " + most
                + "): right", () -> right(kind == 0 ? word == 0 ? 1 : 3 : WIDTHS[kind], Expect.with(RIGHT[kind], at, word)));
        }
        for (int word : Expect.outside(least, most)) {
            Expect.edge("promise 14, " + KINDS[kind] + "'s " + what + " " + word + " (not " + least + " .. " + most
                + "): wrong at that word, whatever is missing or wrong behind it", () -> {
                wrong(at, Expect.with(RIGHT[kind], at, word));
                wrong(at, Arrays.copyOf(Expect.with(RIGHT[kind], at, word), at + 1));
                int[] more = Arrays.copyOf(Expect.with(RIGHT[kind], at, word), at + 2);
                wrong(at, Expect.with(more, at + 1, 11));
            });
        }
    }

    private static void numbers() {
        bounds("table", 0, 1, 0, 2);
        bounds("o", 1, 2, 0, 5);
        bounds("o", 7, 2, 0, 1);
        bounds("k", 8, 1, 0, 100);
        bounds("o", 10, 2, 0, 3);
        Expect.edge("promise 14, SCAN of table 5 of 6, and of table 6: right, and wrong at that word", () -> {
            RelationDesk desk = Expect.tables(1, 1, 1, 1, 1, 4);
            Expect.same("prepare()", 4, Expect.prepare(desk, 0, 5));
            Expect.argument("prepare()", () -> Expect.prepare(desk, 0, 6));
            Expect.same("place()", 1, desk.place());
        });
        Expect.edge("promise 14, SCAN of a table that was refused: wrong at that word", () -> {
            RelationDesk desk = Expect.tables(1);
            Expect.argument("table(7)", () -> desk.table(7));
            Expect.argument("prepare()", () -> Expect.prepare(desk, 0, 1));
            Expect.same("place()", 1, desk.place());
        });
    }

    private static void selectValues() {
        for (int v : new int[] {Integer.MIN_VALUE, -1, 0, Integer.MAX_VALUE}) {
            Expect.edge("promise 13, SELECT's v " + v + ": any int can be", () -> right(6, Expect.with(RIGHT[1], 3, v)));
        }
    }

    /** PROJECT n with n columns of 0, over the table of 1 column. */
    private static int[] project(int n, int columns) {
        int[] words = new int[columns + 4];
        words[0] = 2;
        words[1] = n;
        return words;
    }

    private static void projects() {
        for (int n = 1; n <= 8; n++) {
            int columns = n;
            Expect.edge("promise 13, PROJECT's n " + n + " (1 the least, 8 the greatest): so many columns", () ->
                right(columns, project(columns, columns)));
        }
        for (int n : Expect.outside(1, 8)) {
            Expect.edge("promise 14, PROJECT's n " + n + " (not 1 .. 8): wrong at that word", () -> {
                for (int columns : new int[] {0, 1, 8, 9}) {
                    wrong(1, project(n, columns));
                }
                wrong(1, 2, n);
            });
        }
        Expect.edge("promise 14, PROJECT of one column fewer than n: the next word is taken for it", () ->
            wrong(5, 2, 2, 0, 0, 0));
        Expect.edge("promise 14, PROJECT of one column more than n: it is taken for the term's kind", () -> {
            wrong(3, 2, 1, 0, 11, 0, 1);
            wrong(5, 2, 1, 0, 0, 0, 0, 1);
        });
    }

    private static void order() {
        Expect.edge("promise 14, two numbers that can't be: wrong at the first one, as they stand", () -> {
            wrong(2, 1, 0, 6, 0, 0, 9);
            wrong(2, 3, 0, 9, 0, 9);
            wrong(1, 8, 101, 8, 101, 0, 0);
            wrong(4, 3, 0, 0, 8, 101, 11);
        });
        Expect.edge("promise 14, a number that can't be, and words missing or too much: wrong at the number", () -> {
            wrong(1, 8, -1);
            wrong(1, 0, 9, 0, 0);
        });
    }
}
