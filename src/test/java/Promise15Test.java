/** Promise 15, step: fuel 1 .. 500; 1 a row, 0 no more, 2 the fuel is spent, 3 OVER. */
public final class Promise15Test {
    public static void main(String[] args) {
        fuel();
        exactly();
        ends();
        over();
        noQuery();
        Expect.finish("Promise15Test");
    }

    private static void fuel() {
        for (int fuel : Expect.outside(1, 500)) {
            Expect.edge("promise 15, fuel " + fuel + " (not 1 .. 500): refused, and the query is where it was", () -> {
                RelationDesk desk = Expect.desk(1, 7, 8);
                Expect.prepare(desk, 0, 0);
                desk.step(1);
                Expect.argument("step(" + fuel + ")", () -> desk.step(fuel));
                Expect.same("cost()", 1, desk.cost());
                Expect.same("column(0)", 7, desk.column(0));
                Expect.same("step(1)", 1, desk.step(1));
                Expect.same("column(0)", 8, desk.column(0));
            });
        }
        for (int fuel : new int[] {1, 500}) {
            Expect.edge("promise 15, fuel " + fuel + " (1 the least, 500 the most): taken", () -> {
                RelationDesk desk = Expect.desk(1, 7);
                Expect.prepare(desk, 0, 0);
                Expect.same("step(" + fuel + ")", 1, desk.step(fuel));
                Expect.same("cost()", 1, desk.cost());
                Expect.same("step(" + fuel + ")", 0, desk.step(fuel));
            });
        }
    }

    /** COUNT of a CROSS of 20 and 24 rows, which costs 500, and of so many rows more. */
    private static RelationDesk costly(int more) {
        RelationDesk desk = Expect.tables(1, 1, 1);
        Expect.fill(desk, 0, 20);
        Expect.fill(desk, 1, 24);
        Expect.fill(desk, 2, more);
        Expect.prepare(desk, 9, 5, 2, 1, 0, 3, 0, 0, 0, 1, 0, 2);
        return desk;
    }

    private static void exactly() {
        Expect.edge("promise 15, a row that needs all 500: 1", () -> {
            RelationDesk desk = costly(0);
            Expect.same("step(500)", 1, desk.step(500));
            Expect.same("column(0)", 480, desk.column(0));
            Expect.same("cost()", 500, desk.cost());
            Expect.same("step(1)", 0, desk.step(1));
        });
        Expect.edge("promise 15, a row that needs 501: 2 with 500, then 1 with 1", () -> {
            RelationDesk desk = costly(1);
            Expect.same("step(500)", 2, desk.step(500));
            Expect.same("cost()", 500, desk.cost());
            Expect.same("column(0)", 0, desk.column(0));
            Expect.same("step(1)", 1, desk.step(1));
            Expect.same("column(0)", 481, desk.column(0));
            Expect.same("cost()", 501, desk.cost());
        });
        Expect.edge("promise 15, a row that needs 4: 1 with 4, and 2 with 3", () -> {
            RelationDesk desk = Expect.desk(1, 5, 6, 7, 8);
            Expect.prepare(desk, 1, 0, 0, 8, 0, 0);
            Expect.same("step(4)", 1, desk.step(4));
            Expect.prepare(desk, 1, 0, 0, 8, 0, 0);
            Expect.same("step(3)", 2, desk.step(3));
            Expect.same("step(1)", 1, desk.step(1));
        });
        Expect.edge("promise 15, the fuel is spent again and again: no row is lost, none comes twice", () -> {
            RelationDesk desk = Expect.desk(1, 5, 6, 7);
            Expect.prepare(desk, 3, 0, 0, 0, 0);
            int rows = 0;
            for (int i = 0; i < 12; i++) {
                boolean isFirst = i % 4 == 0;
                Expect.same("step(1) " + i, isFirst ? 2 : 1, desk.step(1));
                if (!isFirst) {
                    Expect.same("the first one's column", 5 + rows / 3, desk.column(0));
                    Expect.same("the second one's column", 5 + rows % 3, desk.column(1));
                    rows++;
                }
            }
            Expect.same("step(1)", 0, desk.step(1));
        });
        Expect.edge("promise 15, fuel that is left: it is no fuel of the next step", () -> {
            RelationDesk desk = Expect.desk(1, 5, 6, 7, 8);
            Expect.prepare(desk, 1, 0, 1, 6, 0, 0);
            Expect.same("step(500)", 1, desk.step(500));
            Expect.same("a row that needs 2", 2, desk.step(1));
            Expect.same("the rest of it", 1, desk.step(1));
            Expect.same("column(0)", 7, desk.column(0));
        });
    }

    private static void ends() {
        Expect.edge("promise 15, no rows at all: 0 at once, at no cost", () -> {
            RelationDesk desk = Expect.tables(1);
            Expect.prepare(desk, 0, 0);
            Expect.same("step(1)", 0, desk.step(1));
            Expect.same("cost()", 0, desk.cost());
        });
        Expect.edge("promise 15, rows to look at, but none that comes: 2 until they are looked at, then 0", () -> {
            RelationDesk desk = Expect.desk(1, 5, 6, 7);
            Expect.prepare(desk, 1, 0, 0, 9, 0, 0);
            Expect.same("step(2)", 2, desk.step(2));
            Expect.same("step(1)", 0, desk.step(1));
            Expect.prepare(desk, 1, 0, 0, 9, 0, 0);
            Expect.same("step(3)", 0, desk.step(3));
        });
        Expect.edge("promise 15, there are no more: the query is gone", () -> {
            RelationDesk desk = Expect.desk(1, 5);
            Expect.prepare(desk, 0, 0);
            Expect.same("step(1)", 1, desk.step(1));
            Expect.same("step(1)", 0, desk.step(1));
            Expect.state("step(1)", () -> desk.step(1));
            Expect.state("step(500)", () -> desk.step(500));
        });
    }

    private static void over() {
        Expect.edge("promise 15, OVER: 3, and the query is gone", () -> {
            RelationDesk desk = Expect.tables(1);
            Expect.fill(desk, 0, 40);
            Expect.prepare(desk, 7, 0, 0, 5, 0, 0, 5, 0, 0, 5, 0, 0, 0, 0);
            Expect.same("step(150)", 2, desk.step(150));
            Expect.same("step(1)", 3, desk.step(1));
            Expect.same("cost()", 151, desk.cost());
            Expect.state("step(1)", () -> desk.step(1));
        });
    }

    private static void noQuery() {
        Expect.edge("promise 15, words alone: no query is prepared", () -> {
            RelationDesk desk = Expect.desk(1, 5);
            Expect.feed(desk, 0, 0);
            Expect.state("step(1)", () -> desk.step(1));
            Expect.same("the words stay", 3, desk.feed(0));
        });
        Expect.edge("promise 15, behind a prepare() that threw: no query is prepared", () -> {
            RelationDesk desk = Expect.desk(1, 5);
            Expect.argument("prepare()", () -> Expect.prepare(desk, 0, 1));
            Expect.state("step(1)", () -> desk.step(1));
        });
        Expect.edge("promise 15, no query and fuel 0 or 501: the argument is looked at first", () -> {
            RelationDesk desk = new RelationDesk();
            Expect.argument("step(0)", () -> desk.step(0));
            Expect.argument("step(501)", () -> desk.step(501));
        });
        Expect.edge("promise 15, no query: refused, and cost(), column() and place() stay", () -> {
            RelationDesk desk = Expect.desk(1, 5);
            Expect.prepare(desk, 0, 0);
            desk.step(1);
            desk.step(1);
            Expect.state("step(1)", () -> desk.step(1));
            Expect.same("cost()", 1, desk.cost());
            Expect.same("column(0)", 5, desk.column(0));
            Expect.same("place()", -1, desk.place());
        });
    }
}
