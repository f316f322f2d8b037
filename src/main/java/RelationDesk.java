/**
 * A small engine of relations: tables of rows of ints with indexes and transactions, queries told
 * as rows of words, checked, and run row by row with fuel.
 */
public final class RelationDesk {
    private static final int MOST_TABLES = 6;
    private static final int MOST_COLUMNS = 6;
    private static final int MOST_ROWS = 40;
    private static final int MOST_CHANGED = 120;
    private static final int MOST_WORDS = 60;
    private static final int MOST_DEPTH = 10;
    private static final int MOST_WIDTH = 12;
    private static final int MOST_PICKS = 8;
    private static final int MOST_LIMIT = 100;
    private static final int MOST_KEPT = 150;
    private static final int MOST_GROUPS = 60;
    private static final int MOST_FUEL = 500;
    /** Far above the rows that one step can see: some 250 free ones for each unit of fuel. */
    private static final int MOST_ASKED = 1000000;
    private static final int PAIR_BASE = 8;
    private static final int NOWHERE = -1;

    private static final int SCAN = 0;
    private static final int SELECT = 1;
    private static final int PROJECT = 2;
    private static final int CROSS = 3;
    private static final int JOIN = 4;
    private static final int UNION = 5;
    private static final int DISTINCT = 6;
    private static final int SORT = 7;
    private static final int LIMIT = 8;
    private static final int COUNT = 9;
    private static final int GROUP = 10;

    private static final int EQUAL = 0;
    private static final int NOT_EQUAL = 1;
    private static final int LESS = 2;
    private static final int NOT_ABOVE = 3;
    private static final int GREATER = 4;
    private static final int NOT_BELOW = 5;

    private static final int RISING = 0;
    private static final int FALLING = 1;

    private static final int HOW_MANY = 0;
    private static final int SUM = 1;
    private static final int LEAST = 2;
    private static final int GREATEST = 3;

    private static final int END = 0;
    private static final int ROW = 1;
    private static final int SPENT = 2;
    private static final int OVER = 3;

    private final Tables tables;
    private final int[] atHand;
    private final Reader reader;
    private final Runner runner;
    private final int[] lastRow;
    private int lastWidth;
    private Term query;

    public RelationDesk() {
        tables = new Tables();
        atHand = new int[MOST_COLUMNS];
        reader = new Reader();
        runner = new Runner();
        lastRow = new int[MOST_WIDTH];
        lastWidth = 0;
        query = null;
    }

    public int table(int columns) throws IllegalArgumentException, IllegalStateException {
        if (columns < 1 || columns > MOST_COLUMNS) {
            throw new IllegalArgumentException("a table has 1 .. 6 columns");
        }
        if (tables.count >= MOST_TABLES || tables.inTransaction) {
            throw new IllegalStateException("there are 6 tables, or a transaction goes on");
        }
        query = null;
        return tables.addTable(columns);
    }

    public void index(int table, int column) throws IllegalArgumentException, IllegalStateException {
        Table of = tables.byNumber(table);
        if (of == null || !of.hasColumn(column)) {
            throw new IllegalArgumentException("no such table or column");
        }
        if (of.indexed[column] || tables.inTransaction) {
            throw new IllegalStateException("there is one, or a transaction goes on");
        }
        query = null;
        of.indexed[column] = true;
    }

    public void stage(int c, int v) throws IllegalArgumentException {
        if (c < 0 || c >= MOST_COLUMNS) {
            throw new IllegalArgumentException("the row at hand has cells 0 .. 5");
        }
        atHand[c] = v;
    }

    public int insert(int table) throws IllegalArgumentException, IllegalStateException {
        Table into = tables.byNumber(table);
        if (into == null) {
            throw new IllegalArgumentException("no such table");
        }
        if (into.rows >= MOST_ROWS || !tables.mayChange(1)) {
            throw new IllegalStateException("there are 40 rows, or the transaction has changed 120");
        }
        query = null;
        tables.countChanged(1);
        into.addRow(atHand);
        return into.rows;
    }

    public int delete(int table, int column, int v) throws IllegalArgumentException, IllegalStateException {
        Table from = tables.byNumber(table);
        if (from == null || !from.hasColumn(column)) {
            throw new IllegalArgumentException("no such table or column");
        }
        int found = from.countEqual(column, v);
        if (!tables.mayChange(found)) {
            throw new IllegalStateException("the transaction would have changed more than 120");
        }
        query = null;
        tables.countChanged(found);
        from.removeEqual(column, v);
        return found;
    }

    public int change(int table, int columns, int v, int x) throws IllegalArgumentException, IllegalStateException {
        Table in = tables.byNumber(table);
        int where = Math.floorDiv(columns, PAIR_BASE);
        int to = Math.floorMod(columns, PAIR_BASE);
        if (in == null || !in.hasColumn(where) || !in.hasColumn(to)) {
            throw new IllegalArgumentException("no such table or column");
        }
        int found = in.countEqual(where, v);
        if (!tables.mayChange(found)) {
            throw new IllegalStateException("the transaction would have changed more than 120");
        }
        query = null;
        tables.countChanged(found);
        in.setWhereEqual(where, v, to, x);
        return found;
    }

    public void begin() throws IllegalStateException {
        if (tables.inTransaction) {
            throw new IllegalStateException("a transaction goes on");
        }
        query = null;
        tables.openTransaction();
    }

    public int commit() throws IllegalStateException {
        if (!tables.inTransaction) {
            throw new IllegalStateException("there is no transaction");
        }
        query = null;
        return tables.closeTransaction();
    }

    public int rollback() throws IllegalStateException {
        if (!tables.inTransaction) {
            throw new IllegalStateException("there is no transaction");
        }
        query = null;
        tables.restoreAll();
        return tables.closeTransaction();
    }

    public int cell(int table, int k, int c) throws IllegalArgumentException {
        Table of = tables.byNumber(table);
        if (of == null) {
            throw new IllegalArgumentException("no such table");
        }
        if (k == -1) {
            return of.rows;
        }
        if (!of.hasRow(k) || !of.hasColumn(c)) {
            throw new IllegalArgumentException("no such row or column");
        }
        return of.valueAt(k, c);
    }

    public int feed(int word) throws IllegalStateException {
        if (reader.count >= MOST_WORDS) {
            throw new IllegalStateException("there are 60 words");
        }
        reader.addWord(word);
        return reader.count;
    }

    public int prepare() throws IllegalArgumentException {
        lastWidth = 0;
        query = reader.readQuery(tables);
        runner.startAnew(query);
        if (query == null) {
            throw new IllegalArgumentException("the query is wrong");
        }
        return query.width;
    }

    public int place() {
        return reader.wrongAt;
    }

    public int step(int fuel) throws IllegalArgumentException, IllegalStateException {
        if (fuel < 1 || fuel > MOST_FUEL) {
            throw new IllegalArgumentException("fuel is 1 .. 500");
        }
        if (query == null) {
            throw new IllegalStateException("no query is prepared");
        }
        int answer = runner.goOn(query, fuel);
        if (answer == ROW) {
            keepLastRow(query);
        }
        if (answer == END || answer == OVER) {
            query = null;
        }
        return answer;
    }

    public int column(int i) {
        return i >= 0 && i < lastWidth ? lastRow[i] : 0;
    }

    public int cost() {
        return runner.taken;
    }

    /** A copy, because the query's own row changes while it looks for a next one that may not come. */
    private void keepLastRow(Term from) {
        lastWidth = from.width;
        System.arraycopy(from.row, 0, lastRow, 0, lastWidth);
    }

    /** The rows of one table, one behind the other in one array. */
    private static final class Table {
        final int columns;
        final boolean[] indexed;
        private final int[] cells;
        private final int[] savedCells;
        int rows;
        private int savedRows;

        Table(int columns) {
            this.columns = columns;
            indexed = new boolean[MOST_COLUMNS];
            cells = new int[MOST_ROWS * MOST_COLUMNS];
            savedCells = new int[MOST_ROWS * MOST_COLUMNS];
        }

        boolean hasColumn(int c) {
            return c >= 0 && c < columns;
        }

        boolean hasRow(int k) {
            return k >= 0 && k < rows;
        }

        int valueAt(int k, int c) {
            return hasRow(k) && hasColumn(c) ? cells[k * columns + c] : 0;
        }

        void copyRow(int k, int[] into) {
            if (hasRow(k) && into.length >= columns) {
                System.arraycopy(cells, k * columns, into, 0, columns);
            }
        }

        void addRow(int[] from) {
            if (rows < MOST_ROWS && from.length >= columns) {
                System.arraycopy(from, 0, cells, rows * columns, columns);
                rows++;
            }
        }

        int countEqual(int c, int v) {
            int found = 0;
            for (int k = 0; k < rows; k++) {
                if (valueAt(k, c) == v) {
                    found++;
                }
            }
            return found;
        }

        /** The first row from a place on whose column is v; as many as there are rows when none is. */
        int nextEqual(int from, int c, int v) {
            for (int k = from; k < rows; k++) {
                if (valueAt(k, c) == v) {
                    return k;
                }
            }
            return rows;
        }

        void removeEqual(int c, int v) {
            int left = 0;
            for (int k = 0; k < rows; k++) {
                if (valueAt(k, c) != v) {
                    System.arraycopy(cells, k * columns, cells, left * columns, columns);
                    left++;
                }
            }
            rows = left;
        }

        void setWhereEqual(int c, int v, int to, int x) {
            for (int k = 0; k < rows; k++) {
                if (valueAt(k, c) == v && hasColumn(to)) {
                    cells[k * columns + to] = x;
                }
            }
        }

        void save() {
            System.arraycopy(cells, 0, savedCells, 0, rows * columns);
            savedRows = rows;
        }

        void restore() {
            System.arraycopy(savedCells, 0, cells, 0, savedRows * columns);
            rows = savedRows;
        }
    }

    /** All tables, and the one transaction that may go on over them. */
    private static final class Tables {
        private final Table[] all;
        int count;
        boolean inTransaction;
        private int changed;

        Tables() {
            all = new Table[MOST_TABLES];
        }

        Table byNumber(int number) {
            return number >= 0 && number < count ? all[number] : null;
        }

        int addTable(int columns) {
            int number = count;
            if (number < MOST_TABLES) {
                all[number] = new Table(columns);
                count++;
            }
            return number;
        }

        boolean mayChange(int more) {
            return !inTransaction || changed + more <= MOST_CHANGED;
        }

        void countChanged(int more) {
            if (inTransaction) {
                changed += more;
            }
        }

        void openTransaction() {
            inTransaction = true;
            changed = 0;
            for (int i = 0; i < MOST_TABLES; i++) {
                Table table = byNumber(i);
                if (table != null) {
                    table.save();
                }
            }
        }

        int closeTransaction() {
            inTransaction = false;
            return changed;
        }

        void restoreAll() {
            for (int i = 0; i < MOST_TABLES; i++) {
                Table table = byNumber(i);
                if (table != null) {
                    table.restore();
                }
            }
        }
    }

    /** Rows that a term keeps. Made once with its term and used again: nothing is made while a query runs. */
    private static final class Kept {
        private final int[] cells;
        private final int[] order;
        private int width;
        int rows;

        Kept() {
            cells = new int[MOST_KEPT * MOST_WIDTH];
            order = new int[MOST_KEPT];
        }

        void empty(int newWidth) {
            width = newWidth;
            rows = 0;
        }

        int valueAt(int k, int c) {
            return k >= 0 && k < rows && c >= 0 && c < width ? cells[order[k] * MOST_WIDTH + c] : 0;
        }

        void setAt(int k, int c, int x) {
            if (k >= 0 && k < rows && c >= 0 && c < width) {
                cells[order[k] * MOST_WIDTH + c] = x;
            }
        }

        void copyRow(int k, int[] into) {
            if (k >= 0 && k < rows && into.length >= width) {
                System.arraycopy(cells, order[k] * MOST_WIDTH, into, 0, width);
            }
        }

        boolean add(int[] row) {
            if (rows >= MOST_KEPT || row.length < width) {
                return false;
            }
            System.arraycopy(row, 0, cells, rows * MOST_WIDTH, width);
            order[rows] = rows;
            rows++;
            return true;
        }

        /** The new row moves past strictly later ones only, so that of equal ones the earlier stays first. */
        boolean addSorted(int[] row, int by, int direction) {
            if (!add(row)) {
                return false;
            }
            for (int k = rows - 1; k > 0 && isLater(valueAt(k - 1, by), valueAt(k, by), direction); k--) {
                int moved = order[k];
                order[k] = order[k - 1];
                order[k - 1] = moved;
            }
            return true;
        }

        private static boolean isLater(int a, int b, int direction) {
            return direction == FALLING ? a < b : a > b;
        }

        boolean holds(int[] row) {
            for (int k = 0; k < rows; k++) {
                if (isAt(k, row)) {
                    return true;
                }
            }
            return false;
        }

        /** Straight from the cells: this is asked for each kept row again and again. */
        private boolean isAt(int k, int[] row) {
            if (k < 0 || k >= rows || row.length < width) {
                return false;
            }
            int start = order[k] * MOST_WIDTH;
            for (int c = 0; c < width; c++) {
                if (cells[start + c] != row[c]) {
                    return false;
                }
            }
            return true;
        }

        /** The row whose first column is the value; as many as there are rows when none is. */
        int find(int value) {
            for (int k = 0; k < rows; k++) {
                if (cells[order[k] * MOST_WIDTH] == value) {
                    return k;
                }
            }
            return rows;
        }
    }

    /** One term of a query: what its words say, its parts, and how far it has run. */
    private static final class Term {
        int kind;
        int chosen;
        int other;
        int how;
        int value;
        final int[] picks;
        /** Of a SCAN its table; of a SELECT the table whose index it reads, null when it asks its part. */
        Table source;
        Term first;
        Term second;
        int width;

        final int[] row;
        final Kept kept;
        int position;
        boolean holdsFirst;
        boolean firstDone;
        boolean gathered;

        Term() {
            picks = new int[MOST_PICKS];
            row = new int[MOST_WIDTH];
            kept = new Kept();
        }

        void become(int newKind) {
            kind = newKind;
            chosen = 0;
            other = 0;
            how = 0;
            value = 0;
            source = null;
            first = null;
            second = null;
            width = 0;
        }

        void forget() {
            position = 0;
            holdsFirst = false;
            firstDone = false;
            gathered = false;
            kept.empty(width);
        }
    }

    /** Takes words, and reads them as a query from left to right until one can't be. */
    private static final class Reader {
        private final int[] words;
        int count;
        int wrongAt;
        private int at;
        private final Term[] terms;
        private int used;

        Reader() {
            words = new int[MOST_WORDS];
            terms = new Term[MOST_WORDS];
            wrongAt = NOWHERE;
        }

        void addWord(int word) {
            if (count < MOST_WORDS) {
                words[count] = word;
                count++;
            }
        }

        /** The query's outermost term, or null when it is wrong; the words are gone then. */
        Term readQuery(Tables tables) {
            at = 0;
            used = 0;
            wrongAt = NOWHERE;
            Term query = readTerm(tables, 0);
            if (at < count) {
                fail(at);
            }
            count = 0;
            return failed() ? null : query;
        }

        private boolean failed() {
            return wrongAt != NOWHERE;
        }

        /** Only the first place counts, so whoever reads on after a failure does no harm. */
        private void fail(int place) {
            if (wrongAt == NOWHERE) {
                wrongAt = place;
            }
        }

        private int nextWord() {
            if (failed()) {
                return 0;
            }
            if (at >= count || at >= MOST_WORDS) {
                fail(count);
                return 0;
            }
            int word = words[at];
            at++;
            return word;
        }

        private int nextWithin(int low, int high) {
            int place = at;
            int word = nextWord();
            if (word < low || word > high) {
                fail(place);
                return low;
            }
            return word;
        }

        /** Terms are used again from query to query, because what is made is never given back. */
        private Term nextTerm(int kind) {
            if (failed() || used >= MOST_WORDS) {
                return null;
            }
            if (terms[used] == null) {
                terms[used] = new Term();
            }
            Term term = terms[used];
            used++;
            term.become(kind);
            return term;
        }

        private Term readTerm(Tables tables, int depth) {
            int kindAt = at;
            if (depth >= MOST_DEPTH) {
                fail(kindAt);
                return null;
            }
            Term term = nextTerm(nextWithin(SCAN, GROUP));
            if (term == null) {
                return null;
            }
            readNumbers(term, tables);
            int parts = partsOf(term.kind);
            if (parts >= 1 && !failed()) {
                term.first = readTerm(tables, depth + 1);
            }
            if (parts >= 2 && !failed()) {
                term.second = readTerm(tables, depth + 1);
            }
            if (failed()) {
                return null;
            }
            term.width = widthAsked(term);
            if (term.width < 1 || term.width > MOST_WIDTH) {
                fail(kindAt);
                return null;
            }
            chooseIndex(term);
            return term;
        }

        private static int partsOf(int kind) {
            if (kind == SCAN) {
                return 0;
            }
            return kind == CROSS || kind == JOIN || kind == UNION ? 2 : 1;
        }

        private void readNumbers(Term term, Tables tables) {
            switch (term.kind) {
                case SCAN:
                    term.source = tables.byNumber(nextWithin(0, tables.count - 1));
                    break;
                case SELECT:
                    term.chosen = nextWord();
                    term.how = nextWithin(EQUAL, NOT_BELOW);
                    term.value = nextWord();
                    break;
                case PROJECT:
                    term.value = nextWithin(1, MOST_PICKS);
                    for (int i = 0; i < term.value && i < MOST_PICKS; i++) {
                        term.picks[i] = nextWord();
                    }
                    break;
                case JOIN:
                    term.chosen = nextWord();
                    term.other = nextWord();
                    break;
                case SORT:
                    term.chosen = nextWord();
                    term.how = nextWithin(RISING, FALLING);
                    break;
                case LIMIT:
                    term.value = nextWithin(0, MOST_LIMIT);
                    break;
                case GROUP:
                    term.chosen = nextWord();
                    term.how = nextWithin(HOW_MANY, GREATEST);
                    term.other = nextWord();
                    break;
                default:
                    break;
            }
        }

        /** How many columns the term has; 0 when it asks its parts for columns that they have not. */
        private static int widthAsked(Term term) {
            int first = widthOf(term.first);
            int second = widthOf(term.second);
            switch (term.kind) {
                case SCAN:
                    return term.source == null ? 0 : term.source.columns;
                case SELECT:
                case SORT:
                    return isWithin(term.chosen, first) ? first : 0;
                case PROJECT:
                    return picksWithin(term, first) ? term.value : 0;
                case CROSS:
                    return first + second;
                case JOIN:
                    return isWithin(term.chosen, first) && isWithin(term.other, second) ? first + second : 0;
                case UNION:
                    return first == second ? first : 0;
                case COUNT:
                    return 1;
                case GROUP:
                    return isWithin(term.chosen, first) && isWithin(term.other, first) ? 2 : 0;
                default:
                    return first;
            }
        }

        private static boolean isWithin(int c, int width) {
            return c >= 0 && c < width;
        }

        private static boolean picksWithin(Term term, int width) {
            for (int i = 0; i < term.value && i < MOST_PICKS; i++) {
                if (!isWithin(term.picks[i], width)) {
                    return false;
                }
            }
            return true;
        }

        private static void chooseIndex(Term term) {
            Term part = term.first;
            if (term.kind != SELECT || term.how != EQUAL || part == null || part.kind != SCAN) {
                return;
            }
            Table scanned = part.source;
            if (scanned != null && scanned.hasColumn(term.chosen) && scanned.indexed[term.chosen]) {
                term.source = scanned;
            }
        }
    }

    private static int widthOf(Term term) {
        return term == null ? 0 : term.width;
    }

    /** Asks terms for their rows, and pays for those of the tables. */
    private static final class Runner {
        private int fuel;
        int taken;

        void startAnew(Term query) {
            taken = 0;
            beginAnew(query, 0);
        }

        int goOn(Term query, int newFuel) {
            fuel = newFuel;
            return ask(query, 0);
        }

        private void beginAnew(Term term, int depth) {
            if (term == null || depth >= MOST_DEPTH) {
                return;
            }
            term.forget();
            beginAnew(term.first, depth + 1);
            beginAnew(term.second, depth + 1);
        }

        /** END, ROW (it is the term's row then), SPENT or OVER. */
        private int ask(Term term, int depth) {
            if (term == null || depth >= MOST_DEPTH) {
                return END;
            }
            switch (term.kind) {
                case SCAN:
                    return askScan(term);
                case SELECT:
                    return term.source == null ? askSelect(term, depth) : askIndex(term);
                case PROJECT:
                    return askProject(term, depth);
                case CROSS:
                case JOIN:
                    return askPair(term, depth);
                case UNION:
                    return askUnion(term, depth);
                case DISTINCT:
                    return askDistinct(term, depth);
                case LIMIT:
                    return askLimit(term, depth);
                case COUNT:
                    return askCount(term, depth);
                default:
                    return askGathered(term, depth);
            }
        }

        private int askScan(Term scan) {
            return scan.source == null ? END : takeRow(scan, scan.source, scan.position);
        }

        private int askIndex(Term select) {
            Table source = select.source;
            if (source == null) {
                return END;
            }
            return takeRow(select, source, source.nextEqual(select.position, select.chosen, select.value));
        }

        /** Whether there is a row is seen before it is paid for: the end costs nothing. */
        private int takeRow(Term term, Table source, int k) {
            if (!source.hasRow(k)) {
                return END;
            }
            if (fuel < 1) {
                return SPENT;
            }
            fuel--;
            taken++;
            source.copyRow(k, term.row);
            term.position = k + 1;
            return ROW;
        }

        private int askSelect(Term select, int depth) {
            for (int asked = 0; asked < MOST_ASKED; asked++) {
                int answer = ask(select.first, depth + 1);
                if (answer != ROW) {
                    return answer;
                }
                if (isSo(valueIn(select.first, select.chosen), select.how, select.value)) {
                    copyRow(select.first, select, 0);
                    return ROW;
                }
            }
            return SPENT;
        }

        private static boolean isSo(int a, int how, int b) {
            switch (how) {
                case EQUAL:
                    return a == b;
                case NOT_EQUAL:
                    return a != b;
                case LESS:
                    return a < b;
                case NOT_ABOVE:
                    return a <= b;
                case GREATER:
                    return a > b;
                default:
                    return a >= b;
            }
        }

        private int askProject(Term project, int depth) {
            int answer = ask(project.first, depth + 1);
            if (answer == ROW) {
                for (int i = 0; i < project.width && i < MOST_PICKS; i++) {
                    project.row[i] = valueIn(project.first, project.picks[i]);
                }
            }
            return answer;
        }

        private int askPair(Term pair, int depth) {
            for (int asked = 0; asked < MOST_ASKED; asked++) {
                if (!pair.holdsFirst) {
                    int answer = ask(pair.first, depth + 1);
                    if (answer != ROW) {
                        return answer;
                    }
                    pair.holdsFirst = true;
                    beginAnew(pair.second, depth + 1);
                }
                int answer = ask(pair.second, depth + 1);
                if (answer == END) {
                    pair.holdsFirst = false;
                } else if (answer != ROW) {
                    return answer;
                } else if (isMatch(pair)) {
                    copyRow(pair.first, pair, 0);
                    copyRow(pair.second, pair, widthOf(pair.first));
                    return ROW;
                }
            }
            return SPENT;
        }

        private static boolean isMatch(Term pair) {
            return pair.kind == CROSS
                || valueIn(pair.first, pair.chosen) == valueIn(pair.second, pair.other);
        }

        /** A row of the part as it is. */
        private int askThrough(Term term, Term part, int depth) {
            int answer = ask(part, depth + 1);
            if (answer == ROW) {
                copyRow(part, term, 0);
            }
            return answer;
        }

        private int askUnion(Term union, int depth) {
            if (!union.firstDone) {
                int answer = askThrough(union, union.first, depth);
                if (answer != END) {
                    return answer;
                }
                union.firstDone = true;
            }
            return askThrough(union, union.second, depth);
        }

        private int askDistinct(Term distinct, int depth) {
            for (int asked = 0; asked < MOST_ASKED; asked++) {
                int answer = askThrough(distinct, distinct.first, depth);
                if (answer != ROW) {
                    return answer;
                }
                if (!distinct.kept.holds(distinct.row)) {
                    return distinct.kept.add(distinct.row) ? ROW : OVER;
                }
            }
            return SPENT;
        }

        private int askLimit(Term limit, int depth) {
            if (limit.position >= limit.value) {
                return END;
            }
            int answer = askThrough(limit, limit.first, depth);
            if (answer == ROW) {
                limit.position++;
            }
            return answer;
        }

        private int askCount(Term count, int depth) {
            if (count.gathered) {
                return END;
            }
            int answer = gather(count, depth);
            if (answer != END) {
                return answer;
            }
            count.gathered = true;
            count.row[0] = count.position;
            return ROW;
        }

        private int askGathered(Term term, int depth) {
            if (!term.gathered) {
                int answer = gather(term, depth);
                if (answer != END) {
                    return answer;
                }
                term.gathered = true;
            }
            if (term.position >= term.kept.rows) {
                return END;
            }
            term.kept.copyRow(term.position, term.row);
            term.position++;
            return ROW;
        }

        /** END when all rows of the part have come; what has come stays kept when the fuel is spent. */
        private int gather(Term term, int depth) {
            for (int asked = 0; asked < MOST_ASKED; asked++) {
                int answer = ask(term.first, depth + 1);
                if (answer != ROW) {
                    return answer;
                }
                if (!keepRow(term)) {
                    return OVER;
                }
            }
            return SPENT;
        }

        private static boolean keepRow(Term term) {
            if (term.kind == GROUP) {
                return keepInGroup(term);
            }
            if (term.kind == SORT) {
                copyRow(term.first, term, 0);
                return term.kept.addSorted(term.row, term.chosen, term.how);
            }
            term.position++;
            return true;
        }

        private static boolean keepInGroup(Term group) {
            Kept groups = group.kept;
            int value = valueIn(group.first, group.chosen);
            int part = valueIn(group.first, group.other);
            int k = groups.find(value);
            if (k < groups.rows) {
                groups.setAt(k, 1, combined(groups.valueAt(k, 1), part, group.how));
                return true;
            }
            if (groups.rows >= MOST_GROUPS) {
                return false;
            }
            group.row[0] = value;
            group.row[1] = group.how == HOW_MANY ? 1 : part;
            return groups.add(group.row);
        }

        private static int combined(int soFar, int part, int how) {
            switch (how) {
                case HOW_MANY:
                    return soFar + 1;
                case SUM:
                    return soFar + part;
                case LEAST:
                    return Math.min(soFar, part);
                default:
                    return Math.max(soFar, part);
            }
        }

        private static int valueIn(Term term, int c) {
            return term != null && c >= 0 && c < term.width && c < MOST_WIDTH ? term.row[c] : 0;
        }

        private static void copyRow(Term from, Term to, int at) {
            if (from != null && at >= 0 && at + from.width <= MOST_WIDTH) {
                System.arraycopy(from.row, 0, to.row, at, from.width);
            }
        }
    }
}
