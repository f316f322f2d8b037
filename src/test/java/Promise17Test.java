/** Promise 17, cost: the fuel that was taken since the latest prepare(). */
public final class Promise17Test {
    public static void main(String[] args) {
        since();
        taken();
        stays();
        Expect.finish("Promise17Test");
    }

    private static RelationDesk threeTaken() {
        RelationDesk desk = Expect.desk(1, 5, 6, 7, 8);
        Expect.prepare(desk, 1, 0, 0, 7, 0, 0);
        desk.step(500);
        Expect.same("cost()", 3, desk.cost());
        return desk;
    }

    private static void since() {
        Expect.edge("promise 17, before any prepare(): 0", () ->
            Expect.same("cost()", 0, Expect.desk(1, 5).cost()));
        Expect.edge("promise 17, behind a right prepare(): 0, nothing is asked before step()", () -> {
            RelationDesk desk = threeTaken();
            Expect.prepare(desk, 7, 0, 0, 0, 0);
            Expect.same("cost()", 0, desk.cost());
        });
        Expect.edge("promise 17, behind a wrong prepare(): 0", () -> {
            RelationDesk desk = threeTaken();
            Expect.argument("prepare()", () -> Expect.prepare(desk, 11));
            Expect.same("cost()", 0, desk.cost());
        });
        Expect.edge("promise 17, behind a prepare() of no words: 0", () -> {
            RelationDesk desk = threeTaken();
            Expect.argument("prepare()", () -> desk.prepare());
            Expect.same("cost()", 0, desk.cost());
        });
    }

    private static void taken() {
        Expect.edge("promise 17, more fuel than is needed: what was taken alone", () -> {
            RelationDesk desk = Expect.desk(1, 5, 6);
            Expect.prepare(desk, 0, 0);
            desk.step(500);
            Expect.same("cost()", 1, desk.cost());
            desk.step(500);
            Expect.same("cost()", 2, desk.cost());
            desk.step(500);
            Expect.same("the end costs nothing", 2, desk.cost());
        });
        Expect.edge("promise 17, the fuel is spent: all of it was taken", () -> {
            RelationDesk desk = Expect.desk(1, 5, 6, 7, 8);
            Expect.prepare(desk, 9, 0, 0);
            Expect.same("step(1)", 2, desk.step(1));
            Expect.same("cost()", 1, desk.cost());
            Expect.same("step(2)", 2, desk.step(2));
            Expect.same("cost()", 3, desk.cost());
        });
        Expect.edge("promise 17, more than one step can take: all steps' fuel together", () -> {
            RelationDesk desk = Expect.tables(1);
            Expect.fill(desk, 0, 40);
            Expect.prepare(desk, 9, 3, 0, 0, 0, 0);
            Expect.same("step(500)", 2, desk.step(500));
            Expect.same("step(500)", 2, desk.step(500));
            Expect.same("step(500)", 2, desk.step(500));
            Expect.same("cost()", 1500, desk.cost());
            Expect.same("step(500)", 1, desk.step(500));
            Expect.same("40 + 40 * 40", 1640, desk.cost());
            Expect.same("column(0)", 1600, desk.column(0));
        });
    }

    private static void stays() {
        Expect.edge("promise 17, the query ended, or was cancelled: it stays", () -> {
            RelationDesk desk = threeTaken();
            Expect.same("step(1)", 0, desk.step(1));
            Expect.same("cost()", 4, desk.cost());
            RelationDesk other = threeTaken();
            other.insert(0);
            Expect.same("cost()", 3, other.cost());
        });
        Expect.edge("promise 17, a refused step(): it stays", () -> {
            RelationDesk desk = threeTaken();
            Expect.argument("step(0)", () -> desk.step(0));
            Expect.argument("step(501)", () -> desk.step(501));
            Expect.same("cost()", 3, desk.cost());
            desk.begin();
            Expect.state("step(1)", () -> desk.step(1));
            Expect.same("cost()", 3, desk.cost());
        });
        Expect.edge("promise 17, OVER: the row too much was paid for", () -> {
            RelationDesk desk = Expect.tables(1);
            Expect.fill(desk, 0, 40);
            Expect.prepare(desk, 7, 0, 0, 5, 0, 0, 5, 0, 0, 5, 0, 0, 0, 0);
            Expect.same("step(500)", 3, desk.step(500));
            Expect.same("cost()", 151, desk.cost());
        });
    }
}
