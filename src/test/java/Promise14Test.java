import java.util.Arrays;

/** Promise 14, place: where the latest query was wrong, 0 .. 60; -1 when it was right, or there was none. */
public final class Promise14Test {
    public static void main(String[] args) {
        ends();
        latest();
        Expect.finish("Promise14Test");
    }

    private static void wrongAt(int place, RelationDesk desk, int... words) {
        Expect.argument("prepare()", () -> Expect.prepare(desk, words));
        Expect.same("place()", place, desk.place());
    }

    private static void ends() {
        Expect.edge("promise 14, there was none: -1, though words and tables are there", () -> {
            RelationDesk desk = Expect.desk(1, 7);
            Expect.feed(desk, 11, 11);
            Expect.same("place()", -1, desk.place());
        });
        Expect.edge("promise 14, the first word: 0", () -> wrongAt(0, Expect.tables(1), 11, 0));
        Expect.edge("promise 14, no words: 0, their length", () -> wrongAt(0, Expect.tables(1)));
        Expect.edge("promise 14, the last of 60 words is one too much: 59", () -> {
            int[] words = Arrays.copyOf(Promise12Test.unions(), 60);
            wrongAt(59, Expect.tables(1), words);
        });
        Expect.edge("promise 14, the last of 60 words can't be: 59", () -> {
            int[] words = Arrays.copyOf(Promise12Test.unions(), 60);
            words[57] = 6;
            words[59] = 1;
            wrongAt(59, Expect.tables(1), words);
        });
        Expect.edge("promise 14, words are missing behind 60: 60, their length", () -> {
            int[] words = Arrays.copyOf(Promise12Test.unions(), 60);
            words[57] = 6;
            words[58] = 6;
            words[59] = 0;
            wrongAt(60, Expect.tables(1), words);
        });
    }

    private static void latest() {
        Expect.edge("promise 14, a right query behind a wrong one: -1", () -> {
            RelationDesk desk = Expect.tables(1);
            wrongAt(1, desk, 0, 1);
            Expect.prepare(desk, 0, 0);
            Expect.same("place()", -1, desk.place());
        });
        Expect.edge("promise 14, a wrong query behind a right or a wrong one: where the latest was wrong", () -> {
            RelationDesk desk = Expect.tables(1);
            Expect.prepare(desk, 0, 0);
            wrongAt(2, desk, 0, 0, 0);
            wrongAt(1, desk, 6, 11, 11);
            wrongAt(0, desk);
        });
        Expect.edge("promise 14, other calls behind a wrong query: it stays where that was wrong", () -> {
            RelationDesk desk = Expect.tables(1);
            wrongAt(1, desk, 0, 1);
            desk.table(1);
            desk.index(0, 0);
            desk.begin();
            desk.insert(0);
            desk.change(0, 0, 0, 1);
            desk.delete(0, 0, 1);
            desk.rollback();
            desk.feed(11);
            Expect.state("step(1)", () -> desk.step(1));
            Expect.same("place()", 1, desk.place());
        });
        Expect.edge("promise 14, a right query that runs, ends or is cancelled: -1", () -> {
            RelationDesk desk = Expect.desk(1, 7);
            wrongAt(0, desk);
            Expect.prepare(desk, 0, 0);
            desk.step(1);
            Expect.same("place()", -1, desk.place());
            desk.step(1);
            Expect.same("place()", -1, desk.place());
            Expect.prepare(desk, 0, 0);
            desk.insert(0);
            Expect.same("place()", -1, desk.place());
        });
    }
}
