import java.util.ArrayList;
import java.util.List;
import java.util.Map;
import java.util.Random;

/** Seeded runs of calls, each on a new object and on the model: all answers are the same. */
public final class ModelTest {
    private static final int RUNS = 4000;
    private static final int CALLS = 512;
    private static final int[] ODD = {-1, 6, 7, 11, 100, 101, Integer.MIN_VALUE, Integer.MAX_VALUE};

    private final Random random;
    private final int run;
    private final RelationDesk desk = new RelationDesk();
    private final Model model = new Model();
    private final int values;
    private int calls = 0;

    private ModelTest(int run) {
        this.run = run;
        random = new Random(run);
        values = 2 + random.nextInt(random.nextInt(4) == 0 ? 60 : 8);
    }

    public static void main(String[] args) {
        for (int run = 0; run < RUNS; run++) {
            new ModelTest(run).play();
        }
        Expect.finish("ModelTest");
    }

    private int below(int bound) {
        return random.nextInt(bound);
    }

    private boolean oneIn(int n) {
        return below(n) == 0;
    }

    private int odd() {
        return ODD[below(ODD.length)];
    }

    private int value() {
        return oneIn(40) ? odd() : below(values);
    }

    private int tableNumber() {
        int count = model.shape().size();
        return oneIn(30) || count == 0 ? below(8) - 1 : below(count);
    }

    private int columnOf(int table) {
        return oneIn(30) ? below(8) - 1 : below(model.shape().getOrDefault(table, 6));
    }

    private void both(String what, Expect.Call due, Expect.Call got) {
        if (calls >= CALLS) {
            return;
        }
        calls++;
        String wanted = Expect.answer(due);
        String given = Expect.answer(got);
        Expect.same("run " + run + ", call " + calls + ": " + what + " " + given + " for " + wanted,
            1, wanted.equals(given) ? 1 : 0);
    }

    private void play() {
        int tables = 1 + below(4);
        for (int i = 0; i < tables; i++) {
            table();
        }
        int filling = below(70);
        for (int i = 0; i < filling; i++) {
            write(0);
        }
        while (calls < CALLS) {
            int what = below(20);
            if (what < 13) {
                query();
            } else if (what < 17) {
                write(below(4));
            } else {
                other();
            }
        }
    }

    private void table() {
        int columns = oneIn(20) ? odd() : 1 + below(4);
        both("table " + columns, () -> model.table(columns), () -> desk.table(columns));
    }

    private void write(int what) {
        int table = tableNumber();
        int c = columnOf(table);
        int v = value();
        int x = value();
        if (what <= 1) {
            int staged = oneIn(60) ? odd() : below(6);
            both("stage", () -> {
                model.stage(staged, v);
                return 0;
            }, () -> {
                desk.stage(staged, v);
                return 0;
            });
            both("insert " + table, () -> model.insert(table), () -> desk.insert(table));
        } else if (what == 2 && oneIn(3)) {
            both("delete", () -> model.delete(table, c, v), () -> desk.delete(table, c, v));
        } else {
            int columns = oneIn(20) ? odd() : 8 * c + columnOf(table);
            both("change", () -> model.change(table, columns, v, x), () -> desk.change(table, columns, v, x));
        }
    }

    private void other() {
        int table = tableNumber();
        int c = columnOf(table);
        switch (below(7)) {
            case 0:
                both("index", () -> {
                    model.index(table, c);
                    return 0;
                }, () -> {
                    desk.index(table, c);
                    return 0;
                });
                break;
            case 1:
                both("begin", () -> {
                    model.begin();
                    return 0;
                }, () -> {
                    desk.begin();
                    return 0;
                });
                break;
            case 2:
                both("commit", model::commit, desk::commit);
                break;
            case 3:
                both("rollback", model::rollback, desk::rollback);
                break;
            case 4:
                table();
                break;
            default:
                int k = below(44) - 2;
                both("cell", () -> model.cell(table, k, c), () -> desk.cell(table, k, c));
        }
    }

    private void query() {
        List<Integer> words = new ArrayList<>();
        tell(words, 1 + below(oneIn(8) ? 12 : 5));
        if (oneIn(6)) {
            spoil(words);
        }
        for (int word : words) {
            both("feed " + word, () -> model.feed(word), () -> desk.feed(word));
        }
        both("prepare " + words, model::prepare, desk::prepare);
        both("place of " + words, model::place, desk::place);
        int steps = below(oneIn(4) ? 60 : 12);
        int most = oneIn(2) ? 4 : oneIn(2) ? 40 : 500;
        for (int i = 0; i < steps && calls < CALLS; i++) {
            int fuel = oneIn(50) ? odd() : 1 + below(most);
            if (!model.knows(500)) {
                return;
            }
            both("step " + fuel + " of " + words, () -> model.step(fuel), () -> desk.step(fuel));
            int c = below(7) - 1;
            both("column " + c + " of " + words, () -> model.column(c), () -> desk.column(c));
            both("cost of " + words, model::cost, desk::cost);
            if (oneIn(60)) {
                write(below(4));
            }
        }
        int c = below(14) - 1;
        both("column " + c + " of " + words, () -> model.column(c), () -> desk.column(c));
    }

    private void spoil(List<Integer> words) {
        int at = below(words.size());
        switch (below(4)) {
            case 0:
                words.remove(at);
                break;
            case 1:
                words.add(at, below(12));
                break;
            default:
                words.set(at, oneIn(2) ? odd() : below(12));
        }
    }

    /** Tells a term of at most so many levels that is mostly right; its width. */
    private int tell(List<Integer> words, int levels) {
        Map<Integer, Integer> shape = model.shape();
        int kind = levels <= 1 || words.size() > 45 || oneIn(6) ? 0 : 1 + below(10);
        if (kind == 0) {
            int table = tableNumber();
            words.add(0);
            words.add(table);
            return shape.getOrDefault(table, 1);
        }
        words.add(kind);
        if (kind == 3 || kind == 5) {
            int first = tell(words, levels - 1);
            if (kind == 5 && oneIn(2)) {
                words.add(2);
                words.add(Math.min(first, 8));
                for (int i = 0; i < Math.min(first, 8); i++) {
                    words.add(0);
                }
            }
            int second = tell(words, levels - 1);
            return kind == 3 ? first + second : first;
        }
        List<Integer> part = new ArrayList<>();
        int width = tell(part, levels - 1);
        words.addAll(numbers(kind, width));
        words.addAll(part);
        if (kind == 4) {
            return width + tell(words, levels - 1);
        }
        return kind == 2 ? 2 : kind == 9 ? 1 : kind == 10 ? 2 : width;
    }

    private int columnWithin(int width) {
        return oneIn(60) ? width : below(Math.max(width, 1));
    }

    private List<Integer> numbers(int kind, int width) {
        switch (kind) {
            case 1: return List.of(columnWithin(width), below(oneIn(40) ? 7 : 6) * below(2), value());
            case 2: return List.of(2, columnWithin(width), columnWithin(width));
            case 4: return List.of(columnWithin(width), 0);
            case 7: return List.of(columnWithin(width), below(2));
            case 8: return List.of(oneIn(3) ? below(4) : below(101));
            case 10: return List.of(columnWithin(width), below(4), columnWithin(width));
            default: return List.of();
        }
    }
}
