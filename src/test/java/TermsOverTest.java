import java.util.Arrays;

/** Promise 15, and the document's words on OVER: DISTINCT and SORT keep 150 rows, GROUP 60 values, each time anew. */
public final class TermsOverTest {
    private static final int[] OF_150 = {3, 0, 0, 0, 1};
    private static final int[] OF_151 = {5, 3, 0, 0, 0, 1, 0, 2};

    public static void main(String[] args) {
        distinct();
        sort();
        group();
        unkept();
        within();
        limits();
        anew();
        Expect.finish("TermsOverTest");
    }

    /** Tables of 15 and of 10 rows, whose CROSS has 150; one of one row; one of 40 rows. */
    private static RelationDesk desk() {
        RelationDesk desk = Expect.desk(1, Expect.range(1, 15));
        desk.table(1);
        Expect.put(desk, 1, 1, Expect.range(1, 10));
        desk.table(2);
        Expect.put(desk, 2, 2, 99, 99);
        desk.table(1);
        Expect.put(desk, 3, 1, Expect.range(1, 40));
        return desk;
    }

    private static int[] joined(int[]... parts) {
        int[] all = new int[0];
        for (int[] part : parts) {
            int[] longer = Arrays.copyOf(all, all.length + part.length);
            System.arraycopy(part, 0, longer, all.length, part.length);
            all = longer;
        }
        return all;
    }

    /** The step's answer, with fuel as often as it is spent. */
    private static int goOn(RelationDesk desk) {
        for (int i = 0; i < 30; i++) {
            int answer = desk.step(500);
            if (answer != 2) {
                return answer;
            }
        }
        return 2;
    }

    private static void ends(int answer, RelationDesk desk, int[]... words) {
        Expect.prepare(desk, joined(words));
        int rows = 0;
        int last = goOn(desk);
        while (last == 1 && rows < 200) {
            rows++;
            last = goOn(desk);
        }
        Expect.same("the last answer", answer, last);
        Expect.state("step(1)", () -> desk.step(1));
    }

    private static void counts(int rows, RelationDesk desk, int[]... words) {
        Expect.prepare(desk, joined(new int[] {9}, joined(words)));
        Expect.same("step()", 1, goOn(desk));
        Expect.same("rows", rows, desk.column(0));
    }

    private static void distinct() {
        Expect.edge("promise 15, DISTINCT of 150 rows: all come, then 0", () -> {
            RelationDesk desk = desk();
            Expect.prepare(desk, joined(new int[] {6}, OF_150));
            for (int i = 0; i < 150; i++) {
                Expect.same("step " + i, 1, desk.step(500));
            }
            Expect.same("the end", 0, desk.step(500));
        });
        Expect.edge("promise 15, DISTINCT of 151 rows: 150 come, then 3", () -> {
            RelationDesk desk = desk();
            Expect.prepare(desk, joined(new int[] {6}, OF_151));
            for (int i = 0; i < 150; i++) {
                Expect.same("step " + i, 1, desk.step(500));
            }
            Expect.same("OVER", 3, desk.step(500));
            Expect.state("step(1)", () -> desk.step(1));
        });
        Expect.edge("promise 15, DISTINCT of 150 rows and the same ones again: 150, not OVER", () ->
            counts(150, desk(), new int[] {6, 5}, OF_150, OF_150));
    }

    private static void sort() {
        Expect.edge("promise 15, SORT of 150 rows: all come, then 0", () -> counts(150, desk(), new int[] {7, 0, 0}, OF_150));
        Expect.edge("promise 15, SORT of 151 rows: 3, and no row came", () -> {
            RelationDesk desk = desk();
            Expect.prepare(desk, joined(new int[] {7, 0, 0}, OF_151));
            Expect.same("OVER", 3, desk.step(500));
            Expect.same("column(0)", 0, desk.column(0));
            Expect.state("step(1)", () -> desk.step(1));
        });
        Expect.edge("promise 15, SORT of 151 rows that are equal: they are kept each, 3", () -> {
            RelationDesk desk = Expect.tables(1, 1);
            Expect.fill(desk, 0, 15);
            Expect.fill(desk, 1, 10);
            counts(150, desk, new int[] {7, 0, 1, 3, 0, 0, 0, 1});
            ends(3, desk, new int[] {7, 0, 1, 5, 3, 0, 0, 0, 1, 8, 1, 3, 0, 0, 0, 1});
        });
    }

    private static void group() {
        Expect.edge("promise 15, GROUP of 60 values: all come, then 0", () -> {
            RelationDesk desk = Expect.desk(1, Expect.range(1, 40));
            desk.table(1);
            Expect.put(desk, 1, 1, Expect.range(41, 60));
            counts(60, desk, new int[] {10, 0, 0, 0, 5, 0, 0, 0, 1});
        });
        Expect.edge("promise 15, GROUP of 61 values: 3, and no row came", () -> {
            for (int o = 0; o <= 3; o++) {
                RelationDesk desk = Expect.desk(1, Expect.range(1, 40));
                desk.table(1);
                Expect.put(desk, 1, 1, Expect.range(41, 61));
                Expect.prepare(desk, 10, 0, o, 0, 5, 0, 0, 0, 1);
                Expect.same("OVER", 3, desk.step(500));
                Expect.same("cost()", 61, desk.cost());
                Expect.same("column(0)", 0, desk.column(0));
                Expect.state("step(1)", () -> desk.step(1));
            }
        });
        Expect.edge("promise 15, GROUP of 60 values, with more rows of them behind: not OVER", () -> {
            RelationDesk desk = Expect.desk(1, Expect.range(1, 40));
            desk.table(1);
            Expect.put(desk, 1, 1, Expect.range(41, 60));
            counts(60, desk, new int[] {10, 0, 0, 0, 5, 0, 0, 5, 0, 1, 5, 0, 1, 0, 0});
        });
        Expect.edge("promise 15, GROUP of 1600 rows of 40 values: its values are kept, not its rows", () ->
            counts(40, desk(), new int[] {10, 0, 0, 1, 3, 0, 3, 0, 3}));
    }

    private static void unkept() {
        Expect.edge("promise 15, COUNT, SELECT, PROJECT, CROSS, JOIN, UNION of more than 150 rows: they keep none", () -> {
            counts(1600, desk(), new int[] {3, 0, 3, 0, 3});
            counts(1600, desk(), new int[] {1, 0, 4, 0, 3, 0, 3, 0, 3});
            counts(1600, desk(), new int[] {2, 1, 0, 3, 0, 3, 0, 3});
            counts(301, desk(), new int[] {5}, OF_150, OF_151);
            counts(400, desk(), new int[] {4, 1, 0, 3, 0, 3, 0, 1, 0, 1});
        });
        Expect.edge("promise 15, DISTINCT of 1600 rows, 40 of them distinct: those alone are kept", () ->
            counts(40, desk(), new int[] {6, 2, 1, 0, 3, 0, 3, 0, 3}));
    }

    private static void within() {
        int[][] around = {
            {1, 0, 0, 1}, {2, 1, 0}, {6}, {7, 0, 0}, {8, 1}, {9}, {10, 0, 0, 0}, {3, 0, 0}, {4, 0, 0, 0, 0}, {5, 0, 2},
        };
        for (int[] words : around) {
            Expect.edge("promise 15, a SORT of 151 rows within a term of kind " + words[0] + ": the query is OVER", () ->
                ends(3, desk(), words, new int[] {7, 0, 0}, OF_151));
        }
        Expect.edge("promise 15, a SORT of 151 rows as the first of CROSS, JOIN, UNION: the query is OVER", () -> {
            ends(3, desk(), new int[] {3, 7, 0, 0}, OF_151, new int[] {0, 0});
            ends(3, desk(), new int[] {4, 0, 0, 7, 0, 0}, OF_151, new int[] {0, 0});
            ends(3, desk(), new int[] {5, 7, 0, 0}, OF_151, new int[] {0, 2});
        });
        Expect.edge("promise 15, a SORT of 151 rows behind a UNION's rows: they come, then 3, and the last one stays", () -> {
            RelationDesk desk = desk();
            Expect.prepare(desk, joined(new int[] {5, 0, 2, 7, 0, 0}, OF_151));
            Expect.same("step(500)", 1, desk.step(500));
            Expect.same("step(500)", 3, desk.step(500));
            Expect.same("column(1)", 99, desk.column(1));
        });
        Expect.edge("promise 15, a query behind one that was OVER: it runs", () -> {
            RelationDesk desk = desk();
            ends(3, desk, new int[] {7, 0, 0}, OF_151);
            ends(0, desk, new int[] {7, 0, 0}, OF_150);
        });
    }

    private static void limits() {
        Expect.edge("promise 15, LIMIT 0 over a SORT of 151 rows: nothing is asked, 0", () -> {
            RelationDesk desk = desk();
            Expect.prepare(desk, joined(new int[] {8, 0, 7, 0, 0}, OF_151));
            Expect.same("step(1)", 0, desk.step(1));
        });
        Expect.edge("promise 15, LIMIT 100 over a DISTINCT of 151 rows: 100 come, then 0", () ->
            counts(100, desk(), new int[] {8, 100, 6}, OF_151));
        Expect.edge("promise 15, a SORT of LIMIT 100 of 151 rows: 100", () ->
            counts(100, desk(), new int[] {7, 0, 0, 8, 100}, OF_151));
        Expect.edge("promise 15, CROSS of no rows with a SORT of 151: that is not asked, 0", () ->
            ends(0, desk(), new int[] {3, 1, 0, 0, 77, 0, 0, 7, 0, 0}, OF_151));
    }

    private static void anew() {
        Expect.edge("promise 15, a DISTINCT of 150 rows ten times anew: not OVER, it has kept nothing", () ->
            counts(1500, desk(), new int[] {3, 0, 1, 6}, OF_150));
        Expect.edge("promise 15, a SORT of 150 rows ten times anew: not OVER, it has kept nothing", () ->
            counts(1500, desk(), new int[] {3, 0, 1, 7, 1, 1}, OF_150));
        Expect.edge("promise 15, a GROUP of 60 values twice anew, each time the others: not OVER", () -> {
            RelationDesk desk = Expect.desk(1, Expect.range(1, 40));
            desk.table(1);
            Expect.put(desk, 1, 1, Expect.range(41, 60));
            desk.table(1);
            Expect.put(desk, 2, 1, 1, 2);
            counts(120, desk, new int[] {3, 0, 2, 10, 0, 0, 0, 5, 0, 0, 0, 1});
        });
        Expect.edge("promise 15, SORT of SORT, and DISTINCT of SORT, of 150 rows: each keeps its own", () -> {
            counts(150, desk(), new int[] {7, 0, 0, 7, 1, 0}, OF_150);
            counts(150, desk(), new int[] {6, 7, 1, 0, 6}, OF_150);
        });
    }
}
