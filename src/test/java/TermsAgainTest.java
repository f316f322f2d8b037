import java.util.Arrays;

/**
 * Promises 13 and 15, and the document's words on beginning anew: nothing is left of a query, or of a
 * term, that was cut short; and an object is used for 512 calls.
 */
public final class TermsAgainTest {
    private static final String[] KINDS = {
        "SCAN", "SELECT", "PROJECT", "CROSS", "JOIN", "UNION", "DISTINCT", "SORT", "LIMIT", "COUNT", "GROUP",
        "SELECT by an index",
    };
    private static final int[][] QUERIES = {
        {0, 0}, {1, 0, 5, 6, 0, 0}, {2, 2, 1, 0, 0, 0}, {3, 0, 0, 0, 0}, {4, 0, 0, 0, 0, 0, 0}, {5, 0, 0, 0, 0},
        {6, 2, 1, 0, 0, 0}, {7, 1, 1, 0, 0}, {8, 3, 0, 0}, {9, 0, 0}, {10, 0, 1, 1, 0, 0}, {1, 0, 0, 5, 0, 1},
    };

    public static void main(String[] args) {
        leftOnItsWay();
        columnsOfBefore();
        cutShort();
        lastCalls();
        Expect.finish("TermsAgainTest");
    }

    /** Two tables of the same four rows; the second one's columns have indexes. */
    private static RelationDesk desk() {
        RelationDesk desk = Expect.desk(2, 5, 9, 6, 8, 5, 7, 8, 6);
        desk.table(2);
        Expect.put(desk, 1, 2, 5, 9, 6, 8, 5, 7, 8, 6);
        desk.index(1, 0);
        return desk;
    }

    /** What the query answers to its end, with little fuel. */
    private static String told(RelationDesk desk, int[] words) {
        StringBuilder all = new StringBuilder();
        all.append(Expect.answer(() -> Expect.prepare(desk, words)));
        for (int i = 0; i < 30; i++) {
            String answer = Expect.answer(() -> desk.step(3));
            all.append(", ").append(answer).append(" [");
            for (int c = 0; c < 4; c++) {
                all.append(desk.column(c)).append(' ');
            }
            all.append(desk.cost()).append(']');
            if (!answer.equals("1") && !answer.equals("2")) {
                break;
            }
        }
        return all.toString();
    }

    private static void leftOnItsWay() {
        for (int q = 0; q < QUERIES.length; q++) {
            int[] words = QUERIES[q];
            Expect.edge("promise 13, " + KINDS[q] + " behind a query left on its way, of each kind: as on a new object", () -> {
                for (int[] left : QUERIES) {
                    for (int fuel = 1; fuel <= 4; fuel++) {
                        RelationDesk desk = desk();
                        Expect.prepare(desk, left);
                        desk.step(fuel);
                        desk.step(fuel);
                        Expect.same("behind " + Arrays.toString(left), told(desk(), words), told(desk, words));
                    }
                }
            });
        }
    }

    private static void columnsOfBefore() {
        Expect.edge("promise 13, PROJECT of 1 column of 1 behind one of 8 columns of 6: the others are not asked for", () -> {
            RelationDesk desk = Expect.tables(6, 1);
            Expect.put(desk, 1, 1, 7);
            Expect.same("prepare()", 8, Expect.prepare(desk, 2, 8, 5, 5, 5, 5, 5, 5, 5, 5, 0, 0));
            Expect.same("prepare()", 1, Expect.prepare(desk, 2, 1, 0, 0, 1));
            Expect.same("step(1)", 1, desk.step(1));
            Expect.same("column(0)", 7, desk.column(0));
            Expect.same("column(1)", 0, desk.column(1));
        });
        Expect.edge("promise 13, a right query behind a wrong one of each kind: nothing is left of that", () -> {
            for (int i = 0; i < QUERIES.length * QUERIES.length; i++) {
                int[] words = QUERIES[i % QUERIES.length];
                int[] before = QUERIES[i / QUERIES.length];
                RelationDesk desk = desk();
                Expect.argument("prepare()", () -> Expect.prepare(desk, Arrays.copyOf(before, before.length + 1)));
                Expect.same("behind " + Arrays.toString(before), told(desk(), words), told(desk, words));
            }
        });
    }

    /** So many rows of the part alone, as the second of a CROSS of two rows. */
    private static void cut(String kind, int rows, int cost, int... part) {
        Expect.edge("promise 15, " + kind + " cut short by LIMIT " + rows
            + ", as the second of a CROSS: it begins anew for each row, and has kept nothing", () -> {
            int[] ahead = {3, 8, 2, 0, 0, 8, rows};
            int[] words = Arrays.copyOf(ahead, ahead.length + part.length);
            System.arraycopy(part, 0, words, ahead.length, part.length);
            RelationDesk desk = desk();
            int columns = Expect.prepare(desk, words);
            String first = rowsTold(desk, rows, columns);
            Expect.same("cost() behind the first time", 1 + cost, desk.cost());
            Expect.same("the rows of the second time", first, rowsTold(desk, rows, columns));
            Expect.same("cost() behind the second time", 2 + 2 * cost, desk.cost());
            Expect.same("the end", 0, desk.step(500));
        });
    }

    private static String rowsTold(RelationDesk desk, int rows, int columns) {
        StringBuilder all = new StringBuilder();
        for (int i = 0; i < rows; i++) {
            Expect.same("step(500)", 1, desk.step(500));
            for (int c = 2; c < columns; c++) {
                all.append(desk.column(c)).append(' ');
            }
        }
        return all.toString();
    }

    private static void cutShort() {
        cut("SCAN", 2, 2, 0, 0);
        cut("SELECT", 2, 3, 1, 0, 1, 6, 0, 0);
        cut("SELECT by an index", 1, 1, 1, 0, 0, 5, 0, 1);
        cut("PROJECT", 2, 2, 2, 1, 1, 0, 0);
        cut("CROSS", 3, 4, 3, 0, 0, 0, 0);
        cut("CROSS in its second round", 6, 8, 3, 0, 0, 0, 0);
        cut("JOIN", 3, 8, 4, 0, 0, 0, 0, 0, 0);
        cut("UNION in its first term", 3, 3, 5, 0, 0, 0, 0);
        cut("UNION in its second term", 5, 5, 5, 0, 0, 0, 0);
        cut("DISTINCT", 2, 2, 6, 2, 1, 0, 0, 0);
        cut("SORT", 2, 4, 7, 1, 0, 0, 0);
        cut("LIMIT", 2, 2, 8, 3, 0, 0);
        cut("COUNT", 1, 4, 9, 0, 0);
        cut("GROUP", 2, 4, 10, 0, 1, 1, 0, 0);
    }

    private static void lastCalls() {
        Expect.edge("promise 13, every query up to the 512th call: prepared and run as the first one", () -> {
            RelationDesk desk = Expect.desk(1, 5, 6);
            int calls = 5;
            for (int[] words : new int[][] {{7, 0, 1, 0, 0}, {6, 5, 0, 0, 0, 0}}) {
                while (calls + words.length + 3 <= (words[0] == 7 ? 256 : 512)) {
                    Expect.same("prepare()", 1, Expect.prepare(desk, words));
                    Expect.same("step(9)", 1, desk.step(9));
                    Expect.same("column(0)", words[0] == 7 ? 6 : 5, desk.column(0));
                    calls += words.length + 3;
                }
            }
            while (calls < 511) {
                Expect.same("place()", -1, desk.place());
                calls++;
            }
            Expect.same("the 512th call", 2, desk.cell(0, -1, 0));
        });
        Expect.edge("promise 13, queries of 39 terms, one behind the other: each is prepared", () -> {
            RelationDesk desk = Expect.desk(1, 5);
            int[] words = Promise12Test.unions();
            for (int i = 0; i < 8; i++) {
                Expect.same("prepare()", 1, Expect.prepare(desk, words));
                Expect.same("step(1)", 1, desk.step(1));
            }
        });
    }
}
