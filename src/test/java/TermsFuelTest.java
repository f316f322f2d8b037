/** Promises 15 and 17, and the document's words on how a query runs: what is asked, what it costs, what begins anew. */
public final class TermsFuelTest {
    public static void main(String[] args) {
        scans();
        indexes();
        noIndexes();
        rowAtATime();
        pairs();
        limits();
        gathers();
        beginsAnew();
        Expect.finish("TermsFuelTest");
    }

    /** Steps with so much fuel each, and the answers that are due. */
    private static void steps(RelationDesk desk, int fuel, int... answers) {
        for (int i = 0; i < answers.length; i++) {
            Expect.same("step " + i + " with " + fuel, answers[i], desk.step(fuel));
        }
    }

    /** What the query has cost behind each answer, with fuel enough; the last one is the end. */
    private static void costs(RelationDesk desk, int[] words, int... due) {
        Expect.prepare(desk, words);
        for (int i = 0; i < due.length; i++) {
            Expect.same("step " + i, i < due.length - 1 ? 1 : 0, desk.step(500));
            Expect.same("cost() behind step " + i, due[i], desk.cost());
        }
    }

    private static RelationDesk four() {
        return Expect.desk(1, 5, 6, 5, 8);
    }

    private static RelationDesk indexed() {
        RelationDesk desk = four();
        desk.index(0, 0);
        return desk;
    }

    private static void scans() {
        Expect.edge("promise 17, SCAN: each row costs 1, the end nothing", () ->
            costs(four(), Expect.words(0, 0), 1, 2, 3, 4, 4));
        Expect.edge("promise 17, SCAN of no rows: it costs nothing", () -> costs(Expect.tables(1), Expect.words(0, 0), 0));
        Expect.edge("promise 15, SCAN with fuel 1: each step a row, and the end with fuel to spare or not", () -> {
            RelationDesk desk = four();
            Expect.prepare(desk, 0, 0);
            steps(desk, 1, 1, 1, 1, 1, 0);
        });
    }

    private static void indexes() {
        Expect.edge("promise 17, SELECT with 0 by an index: equal ones cost 1, no others cost", () ->
            costs(indexed(), Expect.words(1, 0, 0, 5, 0, 0), 1, 2, 2));
        Expect.edge("promise 17, SELECT with 0 by an index, where none is equal: it costs nothing", () -> {
            costs(indexed(), Expect.words(1, 0, 0, 7, 0, 0), 0);
            RelationDesk none = Expect.tables(1);
            none.index(0, 0);
            costs(none, Expect.words(1, 0, 0, 0, 0, 0), 0);
        });
        Expect.edge("promise 17, SELECT with 0 by an index, where all 40 are equal: 40", () -> {
            RelationDesk desk = Expect.tables(1);
            desk.index(0, 0);
            Expect.fill(desk, 0, 40);
            Expect.prepare(desk, 9, 1, 0, 0, 0, 0, 0);
            Expect.same("step(40)", 1, desk.step(40));
            Expect.same("column(0)", 40, desk.column(0));
            Expect.same("cost()", 40, desk.cost());
        });
        Expect.edge("promise 15, SELECT by an index with fuel 1: each step an equal row", () -> {
            RelationDesk desk = indexed();
            Expect.prepare(desk, 1, 0, 0, 5, 0, 0);
            steps(desk, 1, 1, 1, 0);
        });
        Expect.edge("promise 15, SELECT by an index whose fuel is spent: it goes on from there", () -> {
            RelationDesk desk = indexed();
            Expect.prepare(desk, 9, 1, 0, 0, 5, 0, 0);
            steps(desk, 1, 2, 1, 0);
            Expect.same("column(0)", 2, desk.column(0));
        });
        Expect.edge("promise 17, an index of the last of six columns", () -> {
            RelationDesk desk = Expect.tables(6);
            desk.index(0, 5);
            Expect.put(desk, 0, 6, 0, 0, 0, 0, 0, 1, 0, 0, 0, 0, 0, 2);
            costs(desk, Expect.words(1, 5, 0, 2, 0, 0), 1, 1);
            costs(desk, Expect.words(1, 4, 0, 0, 0, 0), 1, 2, 2);
            costs(desk, Expect.words(1, 0, 0, 9, 0, 0), 2);
        });
    }

    private static void noIndexes() {
        Expect.edge("promise 17, SELECT with 0 without an index: all rows cost", () ->
            costs(four(), Expect.words(1, 0, 0, 5, 0, 0), 1, 3, 4));
        Expect.edge("promise 17, SELECT with 1 .. 5 over an index: all rows cost", () -> {
            costs(indexed(), Expect.words(1, 0, 1, 5, 0, 0), 2, 4, 4);
            costs(indexed(), Expect.words(1, 0, 2, 6, 0, 0), 1, 3, 4);
            costs(indexed(), Expect.words(1, 0, 3, 5, 0, 0), 1, 3, 4);
            costs(indexed(), Expect.words(1, 0, 4, 6, 0, 0), 4, 4);
            costs(indexed(), Expect.words(1, 0, 5, 8, 0, 0), 4, 4);
        });
        Expect.edge("promise 17, SELECT with 0 not right ahead of the SCAN: all rows cost, with each kind between", () -> {
            costs(indexed(), Expect.words(1, 0, 0, 8, 1, 0, 1, 9, 0, 0), 4, 4);
            costs(indexed(), Expect.words(1, 0, 0, 8, 2, 1, 0, 0, 0), 4, 4);
            costs(indexed(), Expect.words(1, 0, 0, 8, 6, 0, 0), 4, 4);
            costs(indexed(), Expect.words(1, 0, 0, 8, 7, 0, 0, 0, 0), 4, 4);
            costs(indexed(), Expect.words(1, 0, 0, 8, 8, 100, 0, 0), 4, 4);
            costs(indexed(), Expect.words(1, 0, 0, 8, 10, 0, 0, 0, 0, 0), 4, 4);
            costs(indexed(), Expect.words(9, 1, 0, 0, 8, 5, 0, 0, 0, 0), 8, 8);
        });
        Expect.edge("promise 17, SELECT with 0 over a SELECT that has the index: what that one gives costs", () ->
            costs(indexed(), Expect.words(1, 0, 0, 8, 1, 0, 0, 5, 0, 0), 2));
        Expect.edge("promise 17, an index of another column, or of another table: all rows cost", () -> {
            RelationDesk desk = Expect.desk(2, 1, 5, 2, 6);
            desk.table(2);
            Expect.put(desk, 1, 2, 1, 5, 2, 6);
            desk.index(0, 1);
            costs(desk, Expect.words(1, 0, 0, 1, 0, 0), 1, 2);
            costs(desk, Expect.words(1, 1, 0, 5, 0, 1), 1, 2);
            costs(desk, Expect.words(1, 1, 0, 6, 0, 0), 1, 1);
        });
        Expect.edge("promise 17, JOIN over indexed columns: all rows cost", () ->
            costs(indexed(), Expect.words(9, 4, 0, 0, 0, 0, 0, 0), 20, 20));
    }

    private static void rowAtATime() {
        Expect.edge("promise 17, SELECT, PROJECT, UNION, DISTINCT: a row at a time, no more is asked", () -> {
            costs(four(), Expect.words(1, 0, 1, 6, 0, 0), 1, 3, 4, 4);
            costs(four(), Expect.words(2, 1, 0, 0, 0), 1, 2, 3, 4, 4);
            costs(four(), Expect.words(5, 0, 0, 0, 0), 1, 2, 3, 4, 5, 6, 7, 8, 8);
            costs(four(), Expect.words(6, 0, 0), 1, 2, 4, 4);
        });
        Expect.edge("promise 15, UNION whose fuel is spent as the first one ends: the second one begins at its start", () -> {
            RelationDesk desk = four();
            Expect.prepare(desk, 9, 5, 0, 0, 0, 0);
            steps(desk, 4, 2, 1, 0);
            Expect.same("column(0)", 8, desk.column(0));
            Expect.same("cost()", 8, desk.cost());
        });
        Expect.edge("promise 15, DISTINCT whose fuel is spent: it still keeps those that it gave", () -> {
            RelationDesk desk = four();
            Expect.prepare(desk, 6, 5, 0, 0, 0, 0);
            steps(desk, 1, 1, 1, 2, 1, 2, 2, 2, 0);
        });
    }

    private static void pairs() {
        Expect.edge("promise 17, CROSS: a row of the first one, then all of the second one, for each", () -> {
            RelationDesk desk = Expect.desk(1, 1, 2);
            costs(desk, Expect.words(3, 0, 0, 0, 0), 2, 3, 5, 6, 6);
        });
        Expect.edge("promise 17, JOIN: likewise, those that are not equal cost too", () -> {
            RelationDesk desk = Expect.desk(1, 1, 2);
            costs(desk, Expect.words(4, 0, 0, 0, 0, 0, 0), 2, 6, 6);
        });
        Expect.edge("promise 17, CROSS and JOIN whose first one has no rows: the second one is not asked", () -> {
            RelationDesk desk = four();
            desk.table(1);
            costs(desk, Expect.words(3, 0, 1, 0, 0), 0);
            costs(desk, Expect.words(4, 0, 0, 0, 1, 7, 0, 0, 0, 0), 0);
        });
        Expect.edge("promise 17, CROSS whose second one has no rows: the first one's cost alone", () -> {
            RelationDesk desk = four();
            desk.table(1);
            costs(desk, Expect.words(3, 0, 0, 0, 1), 4);
        });
        Expect.edge("promise 15, CROSS whose fuel is spent behind the first one's row: that row stays", () -> {
            RelationDesk desk = Expect.desk(1, 1, 2);
            Expect.prepare(desk, 3, 0, 0, 0, 0);
            steps(desk, 1, 2, 1, 1, 2, 1, 1, 0);
            Expect.same("column(0)", 2, desk.column(0));
            Expect.same("column(1)", 2, desk.column(1));
        });
    }

    private static void limits() {
        Expect.edge("promise 17, LIMIT: no more than k are asked for", () -> {
            costs(four(), Expect.words(8, 1, 0, 0), 1, 1);
            costs(four(), Expect.words(8, 2, 0, 0), 1, 2, 2);
            costs(four(), Expect.words(8, 2, 1, 0, 0, 5, 0, 0), 1, 3, 3);
            costs(four(), Expect.words(8, 1, 3, 0, 0, 0, 0), 2, 2);
        });
        Expect.edge("promise 17, LIMIT 0: nothing is asked for, even of SORT, COUNT, GROUP", () -> {
            costs(four(), Expect.words(8, 0, 0, 0), 0);
            costs(four(), Expect.words(8, 0, 7, 0, 0, 0, 0), 0);
            costs(four(), Expect.words(8, 0, 9, 0, 0), 0);
            costs(four(), Expect.words(8, 0, 10, 0, 0, 0, 0, 0), 0);
        });
        Expect.edge("promise 17, LIMIT 1 over SORT, COUNT, GROUP: all of their rows are asked for", () -> {
            costs(four(), Expect.words(8, 1, 7, 0, 0, 0, 0), 4, 4);
            costs(four(), Expect.words(8, 1, 9, 0, 0), 4, 4);
            costs(four(), Expect.words(8, 1, 10, 0, 0, 0, 0, 0), 4, 4);
        });
        Expect.edge("promise 15, LIMIT whose fuel is spent: what it gave still counts", () -> {
            RelationDesk desk = four();
            Expect.prepare(desk, 8, 2, 1, 0, 0, 5, 0, 0);
            steps(desk, 1, 1, 2, 1, 0);
        });
    }

    private static void gathers() {
        Expect.edge("promise 17, SORT, COUNT, GROUP: all of their rows as they are asked first, then none", () -> {
            costs(four(), Expect.words(7, 0, 0, 0, 0), 4, 4, 4, 4, 4);
            costs(four(), Expect.words(9, 0, 0), 4, 4);
            costs(four(), Expect.words(10, 0, 0, 0, 0, 0), 4, 4, 4, 4);
        });
        Expect.edge("promise 17, SORT, COUNT, GROUP as the second of a UNION: not asked before the first one ends", () -> {
            costs(four(), Expect.words(5, 0, 0, 7, 0, 0, 0, 0), 1, 2, 3, 4, 8, 8, 8, 8, 8);
            costs(four(), Expect.words(5, 0, 0, 9, 0, 0), 1, 2, 3, 4, 8, 8);
        });
        Expect.edge("promise 15, SORT, COUNT, GROUP whose fuel is spent one short: the last row is asked for alone", () -> {
            for (int[] words : new int[][] {{7, 0, 0, 0, 0}, {9, 0, 0}, {10, 0, 0, 0, 0, 0}}) {
                RelationDesk desk = four();
                Expect.prepare(desk, words);
                steps(desk, 3, 2, 1);
                Expect.same("cost()", 4, desk.cost());
            }
        });
        Expect.edge("promise 15, SORT whose fuel is spent again and again: all rows, in order", () -> {
            RelationDesk desk = four();
            Expect.prepare(desk, 7, 0, 1, 0, 0);
            steps(desk, 1, 2, 2, 2);
            for (int due : new int[] {8, 6, 5, 5}) {
                Expect.same("step(1)", 1, desk.step(1));
                Expect.same("column(0)", due, desk.column(0));
            }
            steps(desk, 1, 0);
        });
        Expect.edge("promise 15, GROUP's sum whose fuel is spent in a group: that group goes on", () -> {
            RelationDesk desk = four();
            Expect.prepare(desk, 10, 0, 1, 0, 0, 0);
            steps(desk, 1, 2, 2, 2, 1);
            Expect.same("column(0)", 5, desk.column(0));
            Expect.same("column(1)", 10, desk.column(1));
        });
    }

    /** The part behind a CROSS of two rows: what it gives, and costs, comes twice. */
    private static void twice(String kind, int rows, int cost, int... part) {
        Expect.edge("promise 15, " + kind + " as the second of a CROSS: it begins anew, and has kept nothing", () -> {
            RelationDesk desk = four();
            desk.table(1);
            Expect.put(desk, 1, 1, 1, 2);
            int[] words = new int[part.length + 4];
            words[0] = 9;
            words[1] = 3;
            words[3] = 1;
            System.arraycopy(part, 0, words, 4, part.length);
            Expect.prepare(desk, words);
            Expect.same("step(500)", 1, desk.step(500));
            Expect.same("rows", 2 * rows, desk.column(0));
            Expect.same("cost()", 2 + 2 * cost, desk.cost());
        });
    }

    private static void beginsAnew() {
        twice("SCAN", 4, 4, 0, 0);
        twice("SELECT", 2, 4, 1, 0, 0, 5, 0, 0);
        twice("PROJECT", 4, 4, 2, 1, 0, 0, 0);
        twice("CROSS", 16, 20, 3, 0, 0, 0, 0);
        twice("JOIN", 6, 20, 4, 0, 0, 0, 0, 0, 0);
        twice("UNION", 8, 8, 5, 0, 0, 0, 0);
        twice("DISTINCT", 3, 4, 6, 0, 0);
        twice("SORT", 4, 4, 7, 0, 0, 0, 0);
        twice("LIMIT", 3, 3, 8, 3, 0, 0);
        twice("COUNT", 1, 4, 9, 0, 0);
        twice("GROUP", 3, 4, 10, 0, 0, 0, 0, 0);
        twice("a DISTINCT within a UNION", 7, 8, 5, 6, 0, 0, 0, 0);
        Expect.edge("promise 15, SELECT by an index as the second of a CROSS: it begins anew for each row", () -> {
            RelationDesk desk = indexed();
            costs(desk, Expect.words(9, 3, 0, 0, 1, 0, 0, 5, 0, 0), 12, 12);
            Expect.same("column(0)", 8, desk.column(0));
        });
        Expect.edge("promise 15, COUNT and GROUP as the second of a CROSS: their numbers are the same each time", () -> {
            RelationDesk desk = Expect.desk(1, 5, 5);
            Expect.prepare(desk, 3, 0, 0, 3, 9, 0, 0, 10, 0, 1, 0, 0, 0);
            for (int i = 0; i < 2; i++) {
                Expect.same("step(500)", 1, desk.step(500));
                Expect.same("COUNT", 2, desk.column(1));
                Expect.same("GROUP", 10, desk.column(3));
            }
            Expect.same("step(500)", 0, desk.step(500));
        });
        Expect.edge("promise 17, SORT as the first of a CROSS: it is asked once", () ->
            costs(Expect.desk(1, 1, 2), Expect.words(3, 7, 0, 1, 0, 0, 0, 0), 3, 4, 5, 6, 6));
        Expect.edge("promise 15, a query prepared again: its terms have kept nothing", () -> {
            RelationDesk desk = four();
            for (int i = 0; i < 3; i++) {
                costs(desk, Expect.words(6, 0, 0), 1, 2, 4, 4);
                Expect.prepare(desk, 6, 0, 0);
                steps(desk, 1, 1, 1);
            }
        });
    }
}
