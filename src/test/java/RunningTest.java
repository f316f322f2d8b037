/** Promises 15 to 17, and how each kind of term runs: its rows, its order, its cost. */
public final class RunningTest {
    public static void main(String[] args) {
        scan();
        select();
        indexed();
        project();
        crossAndJoin();
        union();
        distinct();
        sort();
        limit();
        countAndGroup();
        deep();
        wide();
        again();
        Expect.finish("RunningTest");
    }

    /** Tables 0 and 1 of two columns, and table 2 of one, which is empty. */
    private static RelationDesk desk() {
        RelationDesk desk = Expect.desk(2, 1, 10, 2, 20, 1, 30, 3, 10);
        desk.table(2);
        Expect.put(desk, 1, 2, 10, 5, 30, 6, 10, 7);
        desk.table(1);
        return desk;
    }

    private static void gives(String what, int[] words, int columns, int cost, int... cells) {
        Expect.gives(what, desk(), words, columns, cost, cells);
    }

    private static void scan() {
        gives("SCAN", Expect.words(0, 0), 2, 4, 1, 10, 2, 20, 1, 30, 3, 10);
        gives("SCAN of no rows", Expect.words(0, 2), 1, 0);
    }

    private static void select() {
        gives("equal", Expect.words(1, 1, 0, 10, 0, 0), 2, 4, 1, 10, 3, 10);
        gives("not equal", Expect.words(1, 1, 1, 10, 0, 0), 2, 4, 2, 20, 1, 30);
        gives("less", Expect.words(1, 1, 2, 20, 0, 0), 2, 4, 1, 10, 3, 10);
        gives("not above", Expect.words(1, 1, 3, 20, 0, 0), 2, 4, 1, 10, 2, 20, 3, 10);
        gives("greater", Expect.words(1, 1, 4, 20, 0, 0), 2, 4, 1, 30);
        gives("not below", Expect.words(1, 1, 5, 20, 0, 0), 2, 4, 2, 20, 1, 30);
        gives("none", Expect.words(1, 0, 4, Integer.MAX_VALUE, 0, 0), 2, 4);
        RelationDesk far = Expect.desk(1, Integer.MIN_VALUE, Integer.MAX_VALUE, 0);
        Expect.gives("far apart", far, Expect.words(1, 0, 2, 1, 0, 0), 1, 3, Integer.MIN_VALUE, 0);
        Expect.gives("far apart", far, Expect.words(1, 0, 4, -1, 0, 0), 1, 3, Integer.MAX_VALUE, 0);
    }

    private static void indexed() {
        RelationDesk desk = desk();
        desk.index(0, 0);
        Expect.gives("index", desk, Expect.words(1, 0, 0, 1, 0, 0), 2, 2, 1, 10, 1, 30);
        Expect.gives("index of none", desk, Expect.words(1, 0, 0, 9, 0, 0), 2, 0);
        Expect.gives("of another column", desk, Expect.words(1, 1, 0, 10, 0, 0), 2, 4, 1, 10, 3, 10);
        Expect.gives("of another table", desk, Expect.words(1, 0, 0, 30, 0, 1), 2, 3, 30, 6);
        Expect.gives("not for other comparisons", desk, Expect.words(1, 0, 3, 1, 0, 0), 2, 4, 1, 10, 1, 30);
        Expect.gives("not behind another term", desk, Expect.words(1, 0, 0, 1, 6, 0, 0), 2, 4, 1, 10, 1, 30);
        Expect.gives("the inner SELECT", desk, Expect.words(1, 1, 0, 30, 1, 0, 0, 1, 0, 0), 2, 2, 1, 30);
        Expect.gives("not for JOIN", desk, Expect.words(4, 0, 0, 0, 0, 0, 0), 4, 20,
            1, 10, 1, 10, 1, 10, 1, 30, 2, 20, 2, 20, 1, 30, 1, 10, 1, 30, 1, 30, 3, 10, 3, 10);
        Expect.gives("anew for each", desk, Expect.words(9, 3, 0, 1, 1, 0, 0, 1, 0, 0), 1, 9, 6);
        RelationDesk second = desk();
        second.index(0, 1);
        Expect.gives("index of column 1", second, Expect.words(1, 1, 0, 10, 0, 0), 2, 2, 1, 10, 3, 10);
        Expect.gives("column 0 has none", second, Expect.words(1, 0, 0, 3, 0, 0), 2, 4, 3, 10);
        desk.change(0, 0, 1, 3);
        Expect.gives("behind a change", desk, Expect.words(1, 0, 0, 3, 0, 0), 2, 3, 3, 10, 3, 30, 3, 10);
        desk.begin();
        desk.delete(0, 1, 30);
        Expect.gives("behind a delete", desk, Expect.words(1, 0, 0, 3, 0, 0), 2, 2, 3, 10, 3, 10);
        desk.rollback();
        Expect.gives("behind a rollback", desk, Expect.words(1, 0, 0, 3, 0, 0), 2, 3, 3, 10, 3, 30, 3, 10);
        Expect.put(desk, 0, 2, 3, 40);
        Expect.gives("behind an insert", desk, Expect.words(1, 0, 0, 3, 0, 0), 2, 4, 3, 10, 3, 30, 3, 10, 3, 40);
    }

    private static void project() {
        gives("PROJECT", Expect.words(2, 1, 1, 0, 0), 1, 4, 10, 20, 30, 10);
        gives("columns turned", Expect.words(2, 2, 1, 0, 0, 0), 2, 4, 10, 1, 20, 2, 30, 1, 10, 3);
        gives("a column many times", Expect.words(8, 1, 2, 8, 1, 1, 0, 1, 1, 1, 1, 0, 0, 0), 8, 1,
            10, 10, 1, 10, 10, 10, 10, 1);
    }

    private static void crossAndJoin() {
        gives("CROSS", Expect.words(3, 1, 0, 4, 2, 0, 0, 0, 1), 4, 7, 3, 10, 10, 5, 3, 10, 30, 6, 3, 10, 10, 7);
        gives("CROSS with no rows", Expect.words(3, 0, 0, 0, 2), 3, 4);
        gives("CROSS of no rows", Expect.words(3, 0, 2, 0, 0), 3, 0);
        gives("JOIN", Expect.words(4, 1, 0, 0, 0, 0, 1), 4, 16,
            1, 10, 10, 5, 1, 10, 10, 7, 1, 30, 30, 6, 3, 10, 10, 5, 3, 10, 10, 7);
        gives("JOIN of none", Expect.words(4, 0, 1, 0, 0, 0, 1), 4, 16);
        gives("the second SORT begins anew", Expect.words(3, 8, 2, 0, 1, 7, 0, 1, 0, 1), 4, 8,
            10, 5, 30, 6, 10, 5, 10, 5, 10, 5, 10, 7, 30, 6, 30, 6, 30, 6, 10, 5, 30, 6, 10, 7);
        gives("the second DISTINCT begins anew", Expect.words(3, 8, 2, 0, 1, 6, 2, 1, 0, 0, 1), 3, 8,
            10, 5, 10, 10, 5, 30, 30, 6, 10, 30, 6, 30);
        gives("the second COUNT begins anew", Expect.words(3, 8, 2, 0, 1, 9, 0, 1), 3, 8, 10, 5, 3, 30, 6, 3);
        gives("the second GROUP begins anew", Expect.words(3, 8, 2, 0, 1, 10, 0, 1, 1, 0, 1), 4, 8,
            10, 5, 10, 12, 10, 5, 30, 6, 30, 6, 10, 12, 30, 6, 30, 6);
        gives("the second LIMIT begins anew", Expect.words(3, 8, 2, 0, 1, 8, 1, 0, 1), 4, 4,
            10, 5, 10, 5, 30, 6, 10, 5);
        gives("the second UNION begins anew", Expect.words(9, 3, 0, 1, 5, 0, 0, 0, 1), 1, 24, 21);
        gives("the second CROSS begins anew", Expect.words(9, 3, 0, 1, 3, 0, 1, 0, 1), 1, 39, 27);
        gives("the first SORT runs once", Expect.words(9, 3, 7, 0, 0, 0, 1, 0, 1), 1, 12, 9);
    }

    private static void union() {
        gives("UNION", Expect.words(5, 0, 1, 0, 0), 2, 7, 10, 5, 30, 6, 10, 7, 1, 10, 2, 20, 1, 30, 3, 10);
        gives("UNION with no rows", Expect.words(5, 0, 2, 9, 0, 0), 1, 4, 4);
        gives("UNION of no rows", Expect.words(5, 9, 0, 1, 0, 2), 1, 3, 3);
        gives("UNION of COUNTs", Expect.words(5, 9, 0, 0, 9, 0, 1), 1, 7, 4, 3);
        gives("UNION with LIMIT", Expect.words(8, 3, 5, 8, 1, 0, 0, 0, 1), 2, 3, 1, 10, 10, 5, 30, 6);
    }

    private static void distinct() {
        gives("DISTINCT", Expect.words(6, 2, 1, 0, 0, 0), 1, 4, 1, 2, 3);
        gives("whole rows", Expect.words(6, 0, 0), 2, 4, 1, 10, 2, 20, 1, 30, 3, 10);
        gives("twice the rows", Expect.words(6, 5, 0, 1, 0, 1), 2, 6, 10, 5, 30, 6, 10, 7);
        gives("a row at a time", Expect.words(8, 2, 6, 2, 1, 0, 0, 0), 1, 2, 1, 2);
    }

    private static void sort() {
        gives("rising", Expect.words(7, 1, 0, 0, 0), 2, 4, 1, 10, 3, 10, 2, 20, 1, 30);
        gives("falling", Expect.words(7, 1, 1, 0, 0), 2, 4, 1, 30, 2, 20, 1, 10, 3, 10);
        gives("by column 0", Expect.words(7, 0, 1, 0, 0), 2, 4, 3, 10, 2, 20, 1, 10, 1, 30);
        gives("sorted twice", Expect.words(7, 0, 0, 7, 1, 1, 0, 0), 2, 4, 1, 30, 1, 10, 2, 20, 3, 10);
        gives("of no rows", Expect.words(7, 0, 0, 0, 2), 1, 0);
        gives("all rows are asked", Expect.words(8, 1, 7, 0, 0, 0, 0), 2, 4, 1, 10);
        RelationDesk far = Expect.desk(1, 0, Integer.MIN_VALUE, Integer.MAX_VALUE, -1);
        Expect.gives("far apart", far, Expect.words(7, 0, 0, 0, 0), 1, 4,
            Integer.MIN_VALUE, -1, 0, Integer.MAX_VALUE);
    }

    private static void limit() {
        gives("LIMIT 0", Expect.words(8, 0, 7, 0, 0, 0, 0), 2, 0);
        gives("LIMIT 1", Expect.words(8, 1, 0, 0), 2, 1, 1, 10);
        gives("LIMIT of fewer", Expect.words(8, 100, 0, 1), 2, 3, 10, 5, 30, 6, 10, 7);
        gives("LIMIT of as many", Expect.words(8, 3, 0, 1), 2, 3, 10, 5, 30, 6, 10, 7);
        gives("no row behind the last", Expect.words(8, 1, 1, 0, 0, 1, 0, 0), 2, 1, 1, 10);
        gives("a limit of 0 beside CROSS", Expect.words(3, 0, 0, 8, 0, 0, 0), 4, 4);
    }

    private static void countAndGroup() {
        gives("COUNT", Expect.words(9, 0, 0), 1, 4, 4);
        gives("COUNT of none", Expect.words(9, 0, 2), 1, 0, 0);
        gives("COUNT of COUNT", Expect.words(9, 9, 0, 0), 1, 4, 1);
        gives("how many", Expect.words(10, 0, 0, 1, 0, 0), 2, 4, 1, 2, 2, 1, 3, 1);
        gives("sum", Expect.words(10, 0, 1, 1, 0, 0), 2, 4, 1, 40, 2, 20, 3, 10);
        gives("least", Expect.words(10, 0, 2, 1, 0, 0), 2, 4, 1, 10, 2, 20, 3, 10);
        gives("greatest", Expect.words(10, 0, 3, 1, 0, 0), 2, 4, 1, 30, 2, 20, 3, 10);
        gives("by column 1", Expect.words(10, 1, 1, 0, 0, 0), 2, 4, 10, 4, 20, 2, 30, 1);
        gives("of itself", Expect.words(10, 0, 1, 0, 0, 0), 2, 4, 1, 2, 2, 2, 3, 3);
        gives("of none", Expect.words(10, 0, 0, 0, 0, 2), 2, 0);
        RelationDesk far = Expect.desk(2, 7, Integer.MAX_VALUE, 7, 2, 8, -1, 8, Integer.MIN_VALUE);
        Expect.gives("sums as ints", far, Expect.words(10, 0, 1, 1, 0, 0), 2, 4,
            7, Integer.MIN_VALUE + 1, 8, Integer.MAX_VALUE);
        Expect.gives("least of far ones", far, Expect.words(10, 0, 2, 1, 0, 0), 2, 4, 7, 2, 8, Integer.MIN_VALUE);
        Expect.gives("greatest of negatives", far, Expect.words(10, 0, 3, 1, 0, 0), 2, 4,
            7, Integer.MAX_VALUE, 8, -1);
    }

    /** Ten levels of each kind that takes one part, and of pairs to either side. */
    private static void deep() {
        RelationDesk desk = Expect.desk(1, 3, 1, 2);
        Expect.gives("SELECTs", desk, levels(1, 0, 4, 1), 1, 3, 3, 2);
        Expect.gives("PROJECTs", desk, levels(2, 1, 0), 1, 3, 3, 1, 2);
        Expect.gives("DISTINCTs", desk, levels(6), 1, 3, 3, 1, 2);
        Expect.gives("SORTs", desk, levels(7, 0, 0), 1, 3, 1, 2, 3);
        Expect.gives("LIMITs", desk, levels(8, 2), 1, 2, 3, 1);
        Expect.gives("COUNTs", desk, levels(9), 1, 3, 1);
        Expect.gives("GROUPs", desk, levels(10, 0, 1, 0), 2, 3, 3, 3, 1, 1, 2, 2);
        desk.delete(0, 0, 1);
        Expect.gives("UNIONs", desk, pairs(5, 3), 1, 8, 3, 2, 3, 2, 3, 2, 3, 2);
        RelationDesk one = Expect.desk(1, 7);
        Expect.gives("CROSSes to the right", one, pairs(3, 9), 10, 10, 7, 7, 7, 7, 7, 7, 7, 7, 7, 7);
        Expect.gives("JOINs to the left", one, Expect.words(4, 0, 0, 4, 0, 0, 4, 0, 0, 4, 0, 0, 4, 0, 0,
            4, 0, 0, 4, 0, 0, 4, 0, 0, 4, 0, 0, 0, 0, 0, 0, 0, 0, 0, 0, 0, 0, 0, 0, 0, 0, 0, 0, 0, 0, 0, 0),
            10, 10, 7, 7, 7, 7, 7, 7, 7, 7, 7, 7);
        Expect.gives("a DISTINCT ten levels in, anew", desk, Expect.words(9, 3, 0, 0,
            6, 6, 6, 6, 6, 6, 6, 0, 0), 1, 6, 4);
    }

    /** Nine times the same words, then a SCAN. */
    private static int[] levels(int... words) {
        int[] all = new int[9 * words.length + 2];
        for (int i = 0; i < 9 * words.length; i++) {
            all[i] = words[i % words.length];
        }
        return all;
    }

    /** So many terms of a kind, each with a SCAN and the next one for its parts; a SCAN at the end. */
    private static int[] pairs(int kind, int count) {
        int[] all = new int[3 * count + 2];
        for (int i = 0; i < count; i++) {
            all[3 * i] = kind;
        }
        return all;
    }

    /** Rows of 12 columns, through each kind that gives them on. */
    private static void wide() {
        RelationDesk desk = Expect.desk(6, 1, 2, 3, 4, 5, 6);
        int[] twelve = {1, 2, 3, 4, 5, 6, 1, 2, 3, 4, 5, 6};
        Expect.gives("CROSS", desk, Expect.words(3, 0, 0, 0, 0), 12, 2, twelve);
        Expect.gives("JOIN", desk, Expect.words(4, 5, 5, 0, 0, 0, 0), 12, 2, twelve);
        Expect.gives("JOIN of none", desk, Expect.words(4, 5, 4, 0, 0, 0, 0), 12, 2);
        Expect.gives("SELECT", desk, Expect.words(1, 11, 0, 6, 3, 0, 0, 0, 0), 12, 2, twelve);
        Expect.gives("DISTINCT", desk, Expect.words(6, 5, 3, 0, 0, 0, 0, 3, 0, 0, 0, 0), 12, 4, twelve);
        Expect.gives("SORT", desk, Expect.words(7, 11, 1, 3, 0, 0, 0, 0), 12, 2, twelve);
        Expect.gives("LIMIT", desk, Expect.words(8, 5, 3, 0, 0, 0, 0), 12, 2, twelve);
        Expect.gives("UNION", desk, Expect.words(5, 1, 0, 1, 1, 3, 0, 0, 0, 0, 3, 0, 0, 0, 0), 12, 4, twelve);
        Expect.gives("GROUP", desk, Expect.words(10, 11, 1, 10, 3, 0, 0, 0, 0), 2, 2, 6, 5);
        Expect.gives("PROJECT", desk, Expect.words(2, 2, 11, 6, 3, 0, 0, 0, 0), 2, 2, 6, 1);
        Expect.put(desk, 0, 6, 1, 2, 3, 4, 5, 7);
        Expect.gives("rows that differ at their last column", desk,
            Expect.words(9, 6, 3, 0, 0, 0, 0), 1, 6, 4);
    }

    /** What an earlier query kept or read is nothing to a later one. */
    private static void again() {
        RelationDesk desk = Expect.desk(2, 1, 10, 2, 20, 1, 30);
        for (int i = 0; i < 5; i++) {
            Expect.gives("DISTINCT", desk, Expect.words(6, 2, 1, 0, 0, 0), 1, 3, 1, 2);
            Expect.gives("SORT", desk, Expect.words(7, 1, 1, 0, 0), 2, 3, 1, 30, 2, 20, 1, 10);
            Expect.gives("GROUP", desk, Expect.words(10, 0, 0, 0, 0, 0), 2, 3, 1, 2, 2, 1);
            Expect.gives("COUNT", desk, Expect.words(9, 0, 0), 1, 3, 3);
            Expect.prepare(desk, 7, 0, 0, 0, 0);
            Expect.same("a SORT left on its way", 2, desk.step(2));
        }
    }
}
