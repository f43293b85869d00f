import java.util.ArrayList;
import java.util.Arrays;

/** A relational engine; README.md tells how to use it, ../shared/DOC.md what each call answers. */
public final class RowForge {
    public static final int NONE = -1;
    public static final int NULL = -2147483648;
    public static final int LESS = 0, SAME = 1, MORE = 2;
    public static final int RESTRICT = 0, CASCADE = 1, BLANK = 2;
    public static final int INNER = 0, LEFT = 1, FULL = 2, SEMI = 3, ANTI = 4;
    public static final int COUNT = 0, SUM = 1, LEAST = 2, GREATEST = 3;
    public static final int UNION = 0, COMMON = 1, WITHOUT = 2;
    public static final int ACTIVE = 0, WAITING = 1, COMMITTED = 2, ABORTED = 3;
    public static final int DONE = 0, WAITS = 1, REFUSED = 2, FAILED = 3, VICTIM = 4;
    public static final int WRITE = 0, COMMIT = 1, UNDO = 2, ABORT = 3, CHECK = 4;

    private static final int TABLES = 6;
    private static final int COLUMNS = 4;
    private static final int ROWS = 8;
    private static final int PLACES = TABLES * ROWS;
    private static final int CHECKS = 4;
    private static final int VEILS = 12;
    private static final int ROLES = 4;
    private static final int LARGEST = 1000;
    private static final int KEYS = 2 * LARGEST + 1;
    private static final int TRANSACTIONS = 60;
    private static final int OPEN = 4;
    private static final int QUERIES = 20;
    private static final int VIEWS = 6;
    private static final int TREES = 6;
    private static final int OPERATORS = 12;
    private static final int PARAMETERS = 4;
    private static final int SCANS = 3;
    private static final int WIDEST = 10;
    private static final int MOST_ROWS = ROWS * ROWS * ROWS;

    private static final int OP_SCAN = 0, OP_FILTER = 1, OP_PAIR = 2, OP_RATIO = 3;
    private static final int OP_JOIN = 4, OP_KEEP = 5, OP_GROUP = 6, OP_SET = 7;
    private static final int INSERTING = 0, UPDATING = 1, DELETING = 2;
    private static final int UNKNOWN = -1, FALSE = 0, TRUE = 1;

    private final Schema schema = new Schema();
    private final Engine engine = new Engine(schema);
    private final Evaluator evaluator = new Evaluator(schema);
    private final Planner planner = new Planner();
    private final ArrayList<Query> queries = new ArrayList<>();
    private final ArrayList<Query> viewQueries = new ArrayList<>();
    private final ArrayList<Relation> viewResults = new ArrayList<>();
    private final Relation lastResult = new Relation();
    private final int[] draft = new int[COLUMNS];
    private int drafted;
    private Query trees = new Query();

    public RowForge() {
    }

    // ---- tables

    public int table(int columns) throws IllegalArgumentException, IllegalStateException {
        demandRange(columns >= 1 && columns <= COLUMNS);
        demandState(schema.tables < TABLES && !engine.isBusy());
        dropPlans();
        return schema.addTable(columns);
    }

    public int check(int table, int column, int how, int value) throws IndexOutOfBoundsException, IllegalArgumentException, IllegalStateException {
        demandPlace(schema.hasColumn(table, column));
        demandRange(isComparison(how) && isNumber(value));
        demandState(schema.checkCounts[table] < CHECKS && engine.stored.count(table) == 0 && !engine.isBusy());
        dropPlans();
        return schema.addCheck(table, column, how, value);
    }

    public void refer(int table, int column, int target, int rule) throws IndexOutOfBoundsException, IllegalArgumentException, IllegalStateException {
        demandPlace(schema.hasColumn(table, column) && column != 0 && schema.hasTable(target));
        demandRange(rule >= RESTRICT && rule <= BLANK);
        demandState(schema.target(table, column) == NONE && engine.stored.count(table) == 0 && !engine.isBusy());
        dropPlans();
        schema.addReference(table, column, target, rule);
    }

    public int veil(int role, int table, int column, int how, int value) throws IndexOutOfBoundsException, IllegalArgumentException, IllegalStateException {
        demandPlace(role >= 1 && role < ROLES && schema.hasColumn(table, column));
        demandRange(isComparison(how) && isNumber(value));
        demandState(schema.veils < VEILS && !engine.isBusy());
        dropPlans();
        return schema.addVeil(role, table, column, how, value);
    }

    // ---- transactions

    public int begin(int role) throws IndexOutOfBoundsException, IllegalStateException {
        demandPlace(role >= 0 && role < ROLES);
        demandState(engine.countOpen() < OPEN && engine.transactions.size() < TRANSACTIONS);
        return engine.start(role);
    }

    public int value(int value) throws IllegalArgumentException, IllegalStateException {
        demandRange(isNumber(value) || value == NULL);
        demandState(drafted < COLUMNS);
        draft[drafted] = value;
        drafted++;
        return drafted;
    }

    public int insert(int transaction, int table) throws IndexOutOfBoundsException, IllegalStateException {
        demandPlace(engine.hasTransaction(transaction) && schema.hasTable(table));
        Transaction writer = activeTransaction(transaction);
        demandState(drafted == schema.widths[table]);
        writer.planInsert(table, draft, drafted);
        drafted = 0;
        engine.settle(writer);
        return writer.lastOutcome;
    }

    public int update(int transaction, int table, int key, int column, int value) throws IndexOutOfBoundsException, IllegalArgumentException, IllegalStateException {
        demandPlace(engine.hasTransaction(transaction) && schema.hasColumn(table, column) && column != 0);
        demandRange(isNumber(value) || value == NULL);
        Transaction writer = activeTransaction(transaction);
        writer.planUpdate(table, key, column, value);
        engine.settle(writer);
        return writer.lastOutcome;
    }

    public int delete(int transaction, int table, int key) throws IndexOutOfBoundsException, IllegalStateException {
        demandPlace(engine.hasTransaction(transaction) && schema.hasTable(table));
        Transaction writer = activeTransaction(transaction);
        writer.planDelete(table, key);
        engine.settle(writer);
        return writer.lastOutcome;
    }

    public int commit(int transaction) throws IndexOutOfBoundsException, IllegalStateException {
        demandPlace(engine.hasTransaction(transaction));
        int result = engine.tryCommit(activeTransaction(transaction));
        engine.settle(null);
        if (result == DONE) {
            refreshViews();
        }
        return result;
    }

    public int abort(int transaction) throws IndexOutOfBoundsException, IllegalStateException {
        Transaction ending = transactionAt(transaction);
        demandState(ending.isOpen());
        int undone = engine.rollBack(ending);
        engine.settle(null);
        return undone;
    }

    public int state(int transaction) throws IndexOutOfBoundsException {
        return transactionAt(transaction).phase;
    }

    public int outcome(int transaction) throws IndexOutOfBoundsException {
        return transactionAt(transaction).lastOutcome;
    }

    public int waitsFor(int transaction) throws IndexOutOfBoundsException {
        return transactionAt(transaction).blocker;
    }

    public boolean hasRead(int transaction, int table, int key) throws IndexOutOfBoundsException {
        demandPlace(engine.hasTransaction(transaction) && schema.hasTable(table));
        return transactionAt(transaction).knows(table, key);
    }

    public int own(int transaction, int table, int key, int column) throws IndexOutOfBoundsException {
        demandPlace(engine.hasTransaction(transaction) && schema.hasColumn(table, column));
        Transaction owner = transactionAt(transaction);
        return owner.isOpen() ? owner.rows.cellOf(table, key, column) : NULL;
    }

    public int committed(int table, int key, int column) throws IndexOutOfBoundsException {
        demandPlace(schema.hasColumn(table, column));
        return engine.stored.cellOf(table, key, column);
    }

    public int committedByLog(int table, int key, int column) throws IndexOutOfBoundsException {
        demandPlace(schema.hasColumn(table, column));
        return engine.log.lastCommittedCell(table, key, column);
    }

    public int rowsOf(int table) throws IndexOutOfBoundsException {
        demandPlace(schema.hasTable(table));
        return engine.stored.count(table);
    }

    // ---- queries; operators are put one behind the other, those of others take the last ones

    public int scan(int table) throws IndexOutOfBoundsException, IllegalStateException {
        demandPlace(schema.hasTable(table));
        demandState(trees.trees < TREES && trees.count < OPERATORS && trees.scans < SCANS);
        trees.putScan(table, schema.widths[table]);
        return trees.trees;
    }

    public int filter(int column, int how, int value, boolean isNot) throws IllegalStateException, IndexOutOfBoundsException, IllegalArgumentException {
        demandState(trees.takesOperator(1));
        demandPlace(column >= 0 && column < trees.lastWidth());
        demandRange(isComparison(how) && (isNumber(value) || value == NULL));
        trees.putOnLast(OP_FILTER, trees.lastWidth(), column, how, value, isNot ? 1 : 0);
        return trees.trees;
    }

    public int filterColumns(int column, int how, int other, boolean isNot) throws IllegalStateException, IndexOutOfBoundsException, IllegalArgumentException {
        demandState(trees.takesOperator(1));
        int width = trees.lastWidth();
        demandPlace(column >= 0 && column < width && other >= 0 && other < width);
        demandRange(isComparison(how));
        trees.putOnLast(OP_PAIR, width, column, how, other, isNot ? 1 : 0);
        return trees.trees;
    }

    public int ratio(int column, int divisor, int value) throws IllegalStateException, IndexOutOfBoundsException, IllegalArgumentException {
        demandState(trees.takesOperator(1));
        int width = trees.lastWidth();
        demandPlace(column >= 0 && column < width && divisor >= 0 && divisor < width);
        demandRange(isNumber(value));
        trees.putOnLast(OP_RATIO, width, column, divisor, value, 0);
        return trees.trees;
    }

    public int join(int kind, int left, int right) throws IllegalStateException, IndexOutOfBoundsException, IllegalArgumentException {
        demandState(trees.takesOperator(2));
        boolean isLeftAlone = kind == SEMI || kind == ANTI;
        int leftWidth = trees.earlierWidth();
        int rightWidth = trees.lastWidth();
        demandState(isLeftAlone || leftWidth + rightWidth <= WIDEST);
        demandPlace(left >= 0 && left < leftWidth && right >= 0 && right < rightWidth);
        demandRange(kind >= INNER && kind <= ANTI);
        trees.putOnTwo(OP_JOIN, isLeftAlone ? leftWidth : leftWidth + rightWidth, kind, left, right);
        return trees.trees;
    }

    public int keep(int columns) throws IllegalStateException, IllegalArgumentException {
        demandState(trees.takesOperator(1));
        // a shift leaves something of what is beyond the width, and of the sign too
        demandRange(columns != 0 && columns >>> trees.lastWidth() == 0);
        trees.putOnLast(OP_KEEP, Integer.bitCount(columns), columns, 0, 0, 0);
        return trees.trees;
    }

    public int group(int column, int how, int of) throws IllegalStateException, IndexOutOfBoundsException, IllegalArgumentException {
        demandState(trees.takesOperator(1));
        int width = trees.lastWidth();
        demandPlace(column == NONE || column >= 0 && column < width);
        demandPlace(how == COUNT || of >= 0 && of < width);
        demandRange(how >= COUNT && how <= GREATEST);
        trees.putOnLast(OP_GROUP, 2, column, how, how == COUNT ? 0 : of, 0);
        return trees.trees;
    }

    public int combine(int kind) throws IllegalStateException, IllegalArgumentException {
        demandState(trees.takesOperator(2) && trees.earlierWidth() == trees.lastWidth());
        demandRange(kind >= UNION && kind <= WITHOUT);
        trees.putOnTwo(OP_SET, trees.lastWidth(), kind, 0, 0);
        return trees.trees;
    }

    public int scrap() {
        int dropped = trees.trees;
        trees.clear();
        return dropped;
    }

    public int query() throws IllegalStateException {
        demandState(trees.trees == 1 && queries.size() < QUERIES);
        queries.add(trees);
        trees = new Query();
        return queries.size() - 1;
    }

    public int run(int transaction, int query) throws IndexOutOfBoundsException, IllegalStateException, ArithmeticException {
        demandPlace(engine.hasTransaction(transaction) && hasQuery(query));
        Transaction reader = activeTransaction(transaction);
        Query asked = queries.get(query);
        lastResult.copyFrom(resultFor(reader, asked));
        asked.noteReads(reader);
        return lastResult.rows;
    }

    public int at(int row, int column) throws IndexOutOfBoundsException {
        return cellAt(lastResult, row, column);
    }

    public int atByLoops(int transaction, int query, int row, int column) throws IndexOutOfBoundsException, IllegalStateException, ArithmeticException {
        demandPlace(engine.hasTransaction(transaction) && hasQuery(query));
        Transaction reader = activeTransaction(transaction);
        return cellAt(resultFor(reader, queries.get(query)), row, column);
    }

    // ---- statistics, plans

    public int analyze() {
        planner.takeStatistics(schema, engine.stored);
        return dropPlans();
    }

    public int prepare(int query) throws IndexOutOfBoundsException {
        demandPlace(hasQuery(query));
        Query asked = queries.get(query);
        if (!asked.isPlanned) {
            planner.plan(asked);
        }
        return asked.isPlanned ? asked.cost : NONE;
    }

    public int planAt(int query, int place) throws IndexOutOfBoundsException, IllegalStateException {
        demandPlace(hasQuery(query));
        Query asked = queries.get(query);
        demandState(asked.isPlanned);
        return place >= 0 && place < asked.leaves ? asked.order[place] : NONE;
    }

    public int planned() {
        return planner.found;
    }

    // ---- views

    public int view(int query) throws IndexOutOfBoundsException, IllegalStateException {
        demandPlace(hasQuery(query));
        Query asked = queries.get(query);
        demandState(asked.isViewable() && viewQueries.size() < VIEWS);
        Relation kept = new Relation();
        kept.copyFrom(evaluator.evaluate(asked, engine.stored, 0));
        viewQueries.add(asked);
        viewResults.add(kept);
        return viewQueries.size() - 1;
    }

    public int viewRows(int view) throws IndexOutOfBoundsException {
        demandPlace(hasView(view));
        return viewResults.get(view).rows;
    }

    public int viewAt(int view, int row, int column) throws IndexOutOfBoundsException {
        demandPlace(hasView(view));
        return cellAt(viewResults.get(view), row, column);
    }

    public int viewAnew(int view, int row, int column) throws IndexOutOfBoundsException {
        demandPlace(hasView(view));
        return cellAt(evaluator.evaluate(viewQueries.get(view), engine.stored, 0), row, column);
    }

    // ---- the log

    public int checkpoint() {
        engine.log.add(CHECK, NONE, NULL, NULL);
        engine.log.flush();
        return engine.log.length;
    }

    public int crash(int place) throws IndexOutOfBoundsException {
        demandPlace(place >= engine.log.safe && place <= engine.log.length);
        return engine.comeBack(place);
    }

    public int records() {
        return engine.log.length;
    }

    public int flushed() {
        return engine.log.safe;
    }

    public int recordKind(int record) throws IndexOutOfBoundsException {
        demandPlace(engine.log.holds(record));
        return engine.log.kindOf(record);
    }

    public int recordOf(int record) throws IndexOutOfBoundsException {
        demandPlace(engine.log.holds(record));
        return engine.log.writerOf(record);
    }

    public int recordAt(int record, boolean isKey) throws IndexOutOfBoundsException {
        demandPlace(engine.log.holds(record));
        return isKey ? engine.log.keyOf(record) : engine.log.tableOf(record);
    }

    // ---- what the calls share

    private static void demandPlace(boolean isThere) {
        if (!isThere) {
            throw new IndexOutOfBoundsException();
        }
    }

    private static void demandRange(boolean isInRange) {
        if (!isInRange) {
            throw new IllegalArgumentException();
        }
    }

    private static void demandState(boolean isFit) {
        if (!isFit) {
            throw new IllegalStateException();
        }
    }

    private static boolean isNumber(int value) {
        return value >= -LARGEST && value <= LARGEST;
    }

    private static boolean isComparison(int how) {
        return how >= LESS && how <= MORE;
    }

    /** Compares in three-valued logic: TRUE, FALSE or UNKNOWN. */
    private static int compared(int first, int how, int second) {
        if (first == NULL || second == NULL) {
            return UNKNOWN;
        }
        int sign = Integer.compare(first, second);
        boolean isSo = how == LESS ? sign < 0 : how == SAME ? sign == 0 : sign > 0;
        return isSo ? TRUE : FALSE;
    }

    private static int cellAt(Relation result, int row, int column) {
        demandPlace(result != null && result.hasCell(row, column));
        return result.cell(row, column);
    }

    private boolean hasQuery(int query) {
        return query >= 0 && query < queries.size();
    }

    private boolean hasView(int view) {
        return view >= 0 && view < viewQueries.size();
    }

    private Transaction transactionAt(int transaction) {
        demandPlace(engine.hasTransaction(transaction));
        return engine.transactions.get(transaction);
    }

    private Transaction activeTransaction(int transaction) {
        Transaction found = transactionAt(transaction);
        demandState(found.phase == ACTIVE);
        return found;
    }

    private Relation resultFor(Transaction reader, Query asked) {
        Relation result = evaluator.evaluate(asked, reader.rows, reader.role);
        if (result == null) {
            throw new ArithmeticException();
        }
        return result;
    }

    private int dropPlans() {
        int dropped = 0;
        for (int i = 0; i < queries.size(); i++) {
            Query each = queries.get(i);
            if (each.isPlanned) {
                each.isPlanned = false;
                dropped++;
            }
        }
        return dropped;
    }

    private void refreshViews() {
        for (int i = 0; i < viewQueries.size(); i++) {
            viewResults.get(i).copyFrom(evaluator.evaluate(viewQueries.get(i), engine.stored, 0));
        }
    }

    /** The tables with their checks and references, and the veils of the roles. */
    private static final class Schema {
        static final int CHECK_SIZE = 3;
        static final int VEIL_SIZE = 5;

        int tables;
        final int[] widths = new int[TABLES];
        final int[] checkCounts = new int[TABLES];
        final int[] checkData = new int[TABLES * CHECKS * CHECK_SIZE];
        final int[] targets = new int[TABLES * COLUMNS];
        final int[] rules = new int[TABLES * COLUMNS];
        int veils;
        final int[] veilData = new int[VEILS * VEIL_SIZE];

        Schema() {
            Arrays.fill(targets, NONE);
        }

        boolean hasTable(int table) {
            return table >= 0 && table < tables;
        }

        boolean hasColumn(int table, int column) {
            return hasTable(table) && column >= 0 && column < widths[table];
        }

        int addTable(int columns) {
            widths[tables] = columns;
            tables++;
            return tables - 1;
        }

        int addCheck(int table, int column, int how, int value) {
            int start = (table * CHECKS + checkCounts[table]) * CHECK_SIZE;
            checkData[start] = column;
            checkData[start + 1] = how;
            checkData[start + 2] = value;
            checkCounts[table]++;
            return checkCounts[table];
        }

        void addReference(int table, int column, int target, int rule) {
            targets[table * COLUMNS + column] = target;
            rules[table * COLUMNS + column] = rule;
        }

        int addVeil(int role, int table, int column, int how, int value) {
            int start = veils * VEIL_SIZE;
            veilData[start] = role;
            veilData[start + 1] = table;
            veilData[start + 2] = column;
            veilData[start + 3] = how;
            veilData[start + 4] = value;
            veils++;
            return veils;
        }

        /** The table that a column refers to, or NONE. */
        int target(int table, int column) {
            return targets[table * COLUMNS + column];
        }

        boolean refersTo(int table, int target) {
            for (int column = 1; column < widths[table]; column++) {
                if (target(table, column) == target) {
                    return true;
                }
            }
            return false;
        }

        /** Whether no check of the table is FALSE for the row whose cells begin at start. */
        boolean passesChecks(int table, int[] cells, int start) {
            for (int i = 0; i < checkCounts[table]; i++) {
                int data = (table * CHECKS + i) * CHECK_SIZE;
                if (compared(cells[start + checkData[data]], checkData[data + 1], checkData[data + 2]) == FALSE) {
                    return false;
                }
            }
            return true;
        }

        /** Whether a role sees the row: each veil has to be TRUE, so UNKNOWN hides it too. */
        boolean isSeen(int role, int table, int[] cells, int start) {
            for (int i = 0; i < veils; i++) {
                int data = i * VEIL_SIZE;
                if (veilData[data] == role && veilData[data + 1] == table
                        && compared(cells[start + veilData[data + 2]], veilData[data + 3], veilData[data + 4]) != TRUE) {
                    return false;
                }
            }
            return true;
        }
    }

    /** The rows of all tables; a place whose key is NULL is free, as no row has that key. */
    private static final class Rows {
        final int[] cells = new int[PLACES * COLUMNS];

        Rows() {
            Arrays.fill(cells, NULL);
        }

        void copyFrom(Rows other) {
            System.arraycopy(other.cells, 0, cells, 0, cells.length);
        }

        static int startOf(int place) {
            return place * COLUMNS;
        }

        int keyAt(int place) {
            return cells[place * COLUMNS];
        }

        /** The place of a row, or NONE. */
        int find(int table, int key) {
            return key == NULL ? NONE : firstWith(table, key);
        }

        int findFree(int table) {
            return firstWith(table, NULL);
        }

        private int firstWith(int table, int key) {
            for (int place = table * ROWS; place < (table + 1) * ROWS; place++) {
                if (cells[place * COLUMNS] == key) {
                    return place;
                }
            }
            return NONE;
        }

        int count(int table) {
            int found = 0;
            for (int row = 0; row < ROWS; row++) {
                if (keyAt(table * ROWS + row) != NULL) {
                    found++;
                }
            }
            return found;
        }

        int cellOf(int table, int key, int column) {
            int place = find(table, key);
            return place == NONE ? NULL : cells[startOf(place) + column];
        }

        void put(int place, int[] from, int start) {
            System.arraycopy(from, start, cells, startOf(place), COLUMNS);
        }

        void remove(int place) {
            Arrays.fill(cells, startOf(place), startOf(place) + COLUMNS, NULL);
        }
    }

    /** A transaction: its own rows, what it has read, and its last write, which may have to be tried again. */
    private static final class Transaction {
        final int number;
        final int role;
        final int began;
        final Rows rows = new Rows();
        int phase = ACTIVE;
        int lastOutcome = NONE;
        int blocker = NONE;

        int writeKind;
        int writeTable;
        int writeKey;
        int writeColumn;
        int writeValue;
        final int[] writeRow = new int[COLUMNS];

        int wholeTables;
        int readCount;
        int[] readTables = new int[8];
        int[] readKeys = new int[8];

        int written;
        int[] footprints = new int[8];

        Transaction(int number, int role, int began) {
            this.number = number;
            this.role = role;
            this.began = began;
        }

        boolean isOpen() {
            return phase == ACTIVE || phase == WAITING;
        }

        void planInsert(int table, int[] values, int width) {
            writeKind = INSERTING;
            writeTable = table;
            Arrays.fill(writeRow, NULL);
            System.arraycopy(values, 0, writeRow, 0, width);
            writeKey = writeRow[0];
        }

        void planUpdate(int table, int key, int column, int value) {
            writeKind = UPDATING;
            writeTable = table;
            writeKey = key;
            writeColumn = column;
            writeValue = value;
        }

        void planDelete(int table, int key) {
            writeKind = DELETING;
            writeTable = table;
            writeKey = key;
        }

        void readWhole(int table) {
            wholeTables |= 1 << table;
        }

        boolean hasReadWhole(int table) {
            return (wholeTables >> table & 1) != 0;
        }

        void readKey(int table, int key) {
            if (hasReadKey(table, key)) {
                return;
            }
            if (readCount == readKeys.length) {
                readTables = Arrays.copyOf(readTables, 2 * readCount);
                readKeys = Arrays.copyOf(readKeys, 2 * readCount);
            }
            readTables[readCount] = table;
            readKeys[readCount] = key;
            readCount++;
        }

        boolean hasReadKey(int table, int key) {
            for (int i = 0; i < readCount; i++) {
                if (readTables[i] == table && readKeys[i] == key) {
                    return true;
                }
            }
            return false;
        }

        boolean knows(int table, int key) {
            return hasReadWhole(table) || hasReadKey(table, key);
        }

        void noteFootprint(int footprint) {
            if (written == footprints.length) {
                footprints = Arrays.copyOf(footprints, 2 * written);
            }
            footprints[written] = footprint;
            written++;
        }
    }

    /** The records; a WRITE also holds the row as it is then, so that the log alone tells what is committed. */
    private static final class Log {
        static final int HEAD = 4;
        static final int SIZE = HEAD + COLUMNS;

        int length;
        int safe;
        int[] data = new int[64 * SIZE];
        final boolean[] isCommitted = new boolean[TRANSACTIONS];
        final boolean[] isLeftOpen = new boolean[TRANSACTIONS];

        void add(int kind, int transaction, int table, int key) {
            int start = length * SIZE;
            if (start + SIZE > data.length) {
                data = Arrays.copyOf(data, 2 * data.length);
            }
            data[start] = kind;
            data[start + 1] = transaction;
            data[start + 2] = table;
            data[start + 3] = key;
            Arrays.fill(data, start + HEAD, start + SIZE, NULL);
            length++;
        }

        void addWrite(int transaction, int table, int key, Rows rows) {
            add(WRITE, transaction, table, key);
            int place = rows.find(table, key);
            if (place != NONE) {
                System.arraycopy(rows.cells, Rows.startOf(place), data, (length - 1) * SIZE + HEAD, COLUMNS);
            }
        }

        void flush() {
            safe = length;
        }

        void cut(int place) {
            length = place;
        }

        boolean holds(int record) {
            return record >= 0 && record < length;
        }

        int kindOf(int record) {
            return data[record * SIZE];
        }

        int writerOf(int record) {
            return data[record * SIZE + 1];
        }

        int tableOf(int record) {
            return data[record * SIZE + 2];
        }

        int keyOf(int record) {
            return data[record * SIZE + 3];
        }

        private int countUndone(int transaction) {
            int found = 0;
            for (int record = 0; record < length; record++) {
                if (kindOf(record) == UNDO && writerOf(record) == transaction) {
                    found++;
                }
            }
            return found;
        }

        /** Marks the transactions of which a WRITE is left, but no end; an end stands behind all WRITE records. */
        void markLeftOpen() {
            for (int i = 0; i < isLeftOpen.length; i++) {
                isLeftOpen[i] = false;
            }
            for (int record = 0; record < length; record++) {
                int kind = kindOf(record);
                if (kind == WRITE) {
                    isLeftOpen[writerOf(record)] = true;
                } else if (kind == COMMIT || kind == ABORT) {
                    isLeftOpen[writerOf(record)] = false;
                }
            }
        }

        /**
         * Undoes what no UNDO that is left has undone yet. Undoing goes from the last WRITE on,
         * so the UNDO records that are left belong to the last WRITE records.
         */
        int undoWrites(int transaction) {
            int undone = countUndone(transaction);
            int made = 0;
            for (int record = length - 1; record >= 0; record--) {
                if (kindOf(record) != WRITE || writerOf(record) != transaction) {
                    continue;
                }
                if (undone > 0) {
                    undone--;
                } else {
                    add(UNDO, transaction, tableOf(record), keyOf(record));
                    made++;
                }
            }
            add(ABORT, transaction, NULL, NULL);
            return made;
        }

        int lastCommittedCell(int table, int key, int column) {
            for (int i = 0; i < isCommitted.length; i++) {
                isCommitted[i] = false;
            }
            for (int record = 0; record < length; record++) {
                if (kindOf(record) == COMMIT) {
                    isCommitted[writerOf(record)] = true;
                }
            }
            for (int record = length - 1; record >= 0; record--) {
                if (kindOf(record) == WRITE && tableOf(record) == table && keyOf(record) == key && isCommitted[writerOf(record)]) {
                    return data[record * SIZE + HEAD + column];
                }
            }
            return NULL;
        }
    }

    /** What a write would do, done to a copy of the rows: one that is refused, waits or fails leaves nothing. */
    private static final class Trial {
        final Schema schema;
        final Rows after = new Rows();
        final boolean[] isGone = new boolean[PLACES];
        final boolean[] isChanged = new boolean[PLACES];
        final int[] referred = new int[PLACES * COLUMNS];
        final int[] tables = new int[PLACES];
        final int[] keys = new int[PLACES];
        int count;

        Trial(Schema schema) {
            this.schema = schema;
        }

        /** Notes what the write reads and, if it is not refused, the rows that it writes and what comes of it. */
        boolean allows(Transaction writer) {
            after.copyFrom(writer.rows);
            count = 0;
            if (writer.writeKind == INSERTING) {
                return allowsInsert(writer);
            }
            writer.readKey(writer.writeTable, writer.writeKey);
            return writer.writeKind == UPDATING ? allowsUpdate(writer) : allowsDelete(writer);
        }

        private boolean allowsInsert(Transaction writer) {
            int table = writer.writeTable;
            if (writer.writeKey != NULL) {
                writer.readKey(table, writer.writeKey);
            }
            boolean isReferred = true;
            for (int column = 1; column < schema.widths[table]; column++) {
                isReferred &= findsReferred(writer, column, writer.writeRow[column]);
            }
            int place = after.findFree(table);
            if (!isReferred || writer.writeKey == NULL || place == NONE || after.find(table, writer.writeKey) != NONE
                    || !schema.passesChecks(table, writer.writeRow, 0)) {
                return false;
            }
            after.put(place, writer.writeRow, 0);
            touch(table, writer.writeKey);
            return true;
        }

        private boolean allowsUpdate(Transaction writer) {
            int table = writer.writeTable;
            boolean isReferred = findsReferred(writer, writer.writeColumn, writer.writeValue);
            int place = seenPlace(writer);
            if (!isReferred || place == NONE) {
                return false;
            }
            after.cells[Rows.startOf(place) + writer.writeColumn] = writer.writeValue;
            touch(table, writer.writeKey);
            return schema.passesChecks(table, after.cells, Rows.startOf(place));
        }

        /** Reads what a reference of the column would refer to; answers whether it is there. */
        private boolean findsReferred(Transaction writer, int column, int value) {
            int target = schema.target(writer.writeTable, column);
            if (target == NONE || value == NULL) {
                return true;
            }
            writer.readKey(target, value);
            return writer.rows.find(target, value) != NONE;
        }

        private int seenPlace(Transaction writer) {
            int place = after.find(writer.writeTable, writer.writeKey);
            if (place == NONE || !schema.isSeen(writer.role, writer.writeTable, after.cells, Rows.startOf(place))) {
                return NONE;
            }
            return place;
        }

        private boolean allowsDelete(Transaction writer) {
            int place = seenPlace(writer);
            if (place == NONE) {
                return false;
            }
            findAllReferred(writer.rows);
            isGone[place] = true;
            spreadCascades();
            readReferring(writer);
            if (isRestricted()) {
                return false;
            }
            changeRows();
            touchChanged(writer.rows);
            return true;
        }

        /** Finds for each cell the place of the row that it refers to; no row is gone or changed yet. */
        private void findAllReferred(Rows rows) {
            for (int cell = 0; cell < referred.length; cell++) {
                int place = cell / COLUMNS;
                int target = schema.targets[targetSlot(cell)];
                referred[cell] = target == NONE ? NONE : rows.find(target, rows.cells[cell]);
                isGone[place] = false;
                isChanged[place] = false;
            }
        }

        private static int targetSlot(int cell) {
            return cell / (ROWS * COLUMNS) * COLUMNS + cell % COLUMNS;
        }

        private boolean refersToGone(int cell, int rule) {
            int other = referred[cell];
            return other != NONE && isGone[other] && !isGone[cell / COLUMNS] && schema.rules[targetSlot(cell)] == rule;
        }

        private void spreadCascades() {
            boolean isSpreading = true;
            // each pass but the last one deletes a row more, so there are no more passes than places
            for (int pass = 0; pass <= PLACES && isSpreading; pass++) {
                isSpreading = false;
                for (int cell = 0; cell < referred.length; cell++) {
                    if (refersToGone(cell, CASCADE)) {
                        isGone[cell / COLUMNS] = true;
                        isSpreading = true;
                    }
                }
            }
        }

        private void readReferring(Transaction writer) {
            for (int place = 0; place < PLACES; place++) {
                for (int table = 0; table < schema.tables && isGone[place]; table++) {
                    if (schema.refersTo(table, place / ROWS)) {
                        writer.readWhole(table);
                    }
                }
            }
        }

        private boolean isRestricted() {
            for (int cell = 0; cell < referred.length; cell++) {
                if (refersToGone(cell, RESTRICT)) {
                    return true;
                }
            }
            return false;
        }

        private void changeRows() {
            for (int cell = 0; cell < referred.length; cell++) {
                if (refersToGone(cell, BLANK)) {
                    after.cells[cell] = NULL;
                    isChanged[cell / COLUMNS] = true;
                }
            }
            for (int place = 0; place < PLACES; place++) {
                if (isGone[place]) {
                    after.remove(place);
                    isChanged[place] = true;
                }
            }
        }

        private void touchChanged(Rows rows) {
            for (int place = 0; place < PLACES; place++) {
                if (isChanged[place]) {
                    touch(place / ROWS, rows.keyAt(place));
                }
            }
        }

        /** Tables come rising; within one the key is put where it belongs, as the first row by keys tells for whom to wait. */
        private void touch(int table, int key) {
            int slot = count;
            for (int i = count - 1; i >= 0 && tables[i] == table && keys[i] > key; i--) {
                tables[i + 1] = tables[i];
                keys[i + 1] = keys[i];
                slot = i;
            }
            tables[slot] = table;
            keys[slot] = key;
            count++;
        }
    }

    /** The transactions, what is committed, and who wrote which row and when. */
    private static final class Engine {
        static final int MOST_TURNS = 1000;

        final Trial trial;
        final Rows stored = new Rows();
        final ArrayList<Transaction> transactions = new ArrayList<>();
        final Log log = new Log();
        final int[] writers = new int[TABLES * KEYS];
        final int[] stamps = new int[TABLES * KEYS];
        final int[] tableStamps = new int[TABLES];
        int commits;

        Engine(Schema schema) {
            trial = new Trial(schema);
            Arrays.fill(writers, NONE);
        }

        boolean hasTransaction(int transaction) {
            return transaction >= 0 && transaction < transactions.size();
        }

        int countOpen() {
            int open = 0;
            for (int i = 0; i < transactions.size(); i++) {
                if (transactions.get(i).isOpen()) {
                    open++;
                }
            }
            return open;
        }

        boolean isBusy() {
            return countOpen() > 0;
        }

        int start(int role) {
            Transaction begun = new Transaction(transactions.size(), role, commits);
            begun.rows.copyFrom(stored);
            transactions.add(begun);
            return begun.number;
        }

        /** Where a key's writer and stamp stand; NONE for a key that no row can have. */
        private static int footprint(int table, int key) {
            return isNumber(key) ? table * KEYS + key + LARGEST : NONE;
        }

        private void attempt(Transaction writer) {
            if (!trial.allows(writer)) {
                writer.lastOutcome = REFUSED;
                return;
            }
            int blocker = firstOtherWriter(writer.number);
            if (blocker != NONE && endsWaitingFor(blocker, writer.number)) {
                rollBack(writer);
                writer.lastOutcome = VICTIM;
            } else if (blocker != NONE) {
                writer.phase = WAITING;
                writer.blocker = blocker;
                writer.lastOutcome = WAITS;
            } else if (isOvertaken(writer)) {
                rollBack(writer);
                writer.lastOutcome = FAILED;
            } else {
                carryOut(writer);
                writer.lastOutcome = DONE;
            }
        }

        private int firstOtherWriter(int number) {
            for (int i = 0; i < trial.count; i++) {
                int footprint = footprint(trial.tables[i], trial.keys[i]);
                int other = footprint == NONE ? NONE : writers[footprint];
                if (other != NONE && other != number) {
                    return other;
                }
            }
            return NONE;
        }

        private boolean endsWaitingFor(int blocker, int number) {
            int next = blocker;
            for (int step = 0; step < TRANSACTIONS && hasTransaction(next); step++) {
                if (next == number) {
                    return true;
                }
                next = transactions.get(next).blocker;
            }
            return false;
        }

        private boolean isOvertaken(Transaction writer) {
            for (int i = 0; i < trial.count; i++) {
                if (isCommittedSince(writer, trial.tables[i], trial.keys[i])) {
                    return true;
                }
            }
            return false;
        }

        private boolean isCommittedSince(Transaction reader, int table, int key) {
            int footprint = footprint(table, key);
            return footprint != NONE && stamps[footprint] > reader.began;
        }

        private void carryOut(Transaction writer) {
            writer.rows.copyFrom(trial.after);
            for (int i = 0; i < trial.count; i++) {
                int footprint = footprint(trial.tables[i], trial.keys[i]);
                if (footprint != NONE && writers[footprint] != writer.number) {
                    writers[footprint] = writer.number;
                    writer.noteFootprint(footprint);
                }
                if (footprint != NONE) {
                    log.addWrite(writer.number, trial.tables[i], trial.keys[i], writer.rows);
                }
            }
        }

        /**
         * Tries the write of the first one, if there is one, and then those of the ones that wait for one that has
         * ended, the lowest first each time. If the first one has ended or waits by that, it is not tried again here.
         */
        void settle(Transaction first) {
            Transaction next = first != null ? first : lowestFreed();
            for (int turn = 0; turn < MOST_TURNS && next != null; turn++) {
                next.phase = ACTIVE;
                next.blocker = NONE;
                attempt(next);
                next = lowestFreed();
            }
        }

        private Transaction lowestFreed() {
            for (int i = 0; i < transactions.size(); i++) {
                Transaction each = transactions.get(i);
                if (each.phase == WAITING && hasTransaction(each.blocker) && !transactions.get(each.blocker).isOpen()) {
                    return each;
                }
            }
            return null;
        }

        int rollBack(Transaction ending) {
            int undone = log.undoWrites(ending.number);
            finish(ending, ABORTED);
            return undone;
        }

        private void finish(Transaction ending, int phase) {
            ending.phase = phase;
            ending.blocker = NONE;
            for (int i = 0; i < ending.written; i++) {
                writers[ending.footprints[i]] = NONE;
            }
        }

        int tryCommit(Transaction ending) {
            boolean isFit = !hasStaleRead(ending) && !overfills(ending.number, ending.rows);
            if (isFit) {
                store(ending);
            } else {
                rollBack(ending);
            }
            return isFit ? DONE : FAILED;
        }

        private boolean hasStaleRead(Transaction reader) {
            for (int table = 0; table < TABLES; table++) {
                if (reader.hasReadWhole(table) && tableStamps[table] > reader.began) {
                    return true;
                }
            }
            for (int i = 0; i < reader.readCount; i++) {
                if (isCommittedSince(reader, reader.readTables[i], reader.readKeys[i])) {
                    return true;
                }
            }
            return false;
        }

        private boolean isWrittenBy(int number, int table, int key) {
            int footprint = footprint(table, key);
            return footprint != NONE && writers[footprint] == number;
        }

        /** Others may have filled a table meanwhile, so its own rows alone do not tell how many there would be. */
        private boolean overfills(int number, Rows own) {
            for (int table = 0; table < TABLES; table++) {
                int rows = 0;
                for (int place = table * ROWS; place < (table + 1) * ROWS; place++) {
                    if (stored.keyAt(place) != NULL && !isWrittenBy(number, table, stored.keyAt(place))) {
                        rows++;
                    }
                    if (isWrittenBy(number, table, own.keyAt(place))) {
                        rows++;
                    }
                }
                if (rows > ROWS) {
                    return true;
                }
            }
            return false;
        }

        private void store(Transaction ending) {
            for (int place = 0; place < PLACES; place++) {
                if (isWrittenBy(ending.number, place / ROWS, stored.keyAt(place))) {
                    stored.remove(place);
                }
            }
            for (int place = 0; place < PLACES; place++) {
                int table = place / ROWS;
                int free = stored.findFree(table);
                if (free != NONE && isWrittenBy(ending.number, table, ending.rows.keyAt(place))) {
                    stored.put(free, ending.rows.cells, Rows.startOf(place));
                }
            }
            stampWrites(ending);
            finish(ending, COMMITTED);
            log.add(COMMIT, ending.number, NULL, NULL);
            log.flush();
        }

        private void stampWrites(Transaction ending) {
            commits++;
            for (int i = 0; i < ending.written; i++) {
                int footprint = ending.footprints[i];
                stamps[footprint] = commits;
                tableStamps[footprint / KEYS] = commits;
            }
        }

        int comeBack(int place) {
            log.cut(place);
            for (int i = 0; i < transactions.size(); i++) {
                Transaction each = transactions.get(i);
                if (each.isOpen()) {
                    finish(each, ABORTED);
                }
            }
            log.markLeftOpen();
            int undone = 0;
            for (int i = 0; i < transactions.size(); i++) {
                if (log.isLeftOpen[i]) {
                    undone += log.undoWrites(i);
                }
            }
            log.flush();
            return undone;
        }
    }

    /**
     * Operators in the order in which they were put: each one stands behind those that it takes,
     * so going over them once, upward or downward, replaces walking the tree.
     */
    private static final class Query {
        int count;
        int scans;
        final int[] kinds = new int[OPERATORS];
        final int[] parameters = new int[OPERATORS * PARAMETERS];
        final int[] widths = new int[OPERATORS];
        final int[] firsts = new int[OPERATORS];
        final int[] seconds = new int[OPERATORS];
        int trees;
        final int[] roots = new int[TREES];

        boolean isPlanned;
        int cost;
        int leaves;
        final int[] order = new int[SCANS];

        void clear() {
            count = 0;
            scans = 0;
            trees = 0;
        }

        boolean takesOperator(int operands) {
            return trees >= operands && count < OPERATORS;
        }

        int lastWidth() {
            return trees > 0 ? widths[roots[trees - 1]] : 0;
        }

        int earlierWidth() {
            return trees > 1 ? widths[roots[trees - 2]] : 0;
        }

        int parameter(int operator, int number) {
            return parameters[operator * PARAMETERS + number];
        }

        private void put(int kind, int width, int first, int second) {
            kinds[count] = kind;
            widths[count] = width;
            firsts[count] = first;
            seconds[count] = second;
            Arrays.fill(parameters, count * PARAMETERS, (count + 1) * PARAMETERS, 0);
            count++;
        }

        private void setParameters(int a, int b, int c, int d) {
            int start = (count - 1) * PARAMETERS;
            parameters[start] = a;
            parameters[start + 1] = b;
            parameters[start + 2] = c;
            parameters[start + 3] = d;
        }

        void putScan(int table, int width) {
            put(OP_SCAN, width, NONE, NONE);
            setParameters(table, 0, 0, 0);
            roots[trees] = count - 1;
            trees++;
            scans++;
        }

        void putOnLast(int kind, int width, int a, int b, int c, int d) {
            put(kind, width, roots[trees - 1], NONE);
            setParameters(a, b, c, d);
            roots[trees - 1] = count - 1;
        }

        void putOnTwo(int kind, int width, int a, int b, int c) {
            put(kind, width, roots[trees - 2], roots[trees - 1]);
            setParameters(a, b, c, 0);
            trees--;
            roots[trees - 1] = count - 1;
        }

        boolean isFilter(int operator) {
            return kinds[operator] == OP_FILTER || kinds[operator] == OP_PAIR;
        }

        boolean isInnerJoin(int operator) {
            return kinds[operator] == OP_JOIN && parameter(operator, 0) == INNER;
        }

        void noteReads(Transaction reader) {
            for (int scan = 0; scan < count; scan++) {
                if (kinds[scan] == OP_SCAN) {
                    noteReadsOf(scan, reader);
                }
            }
        }

        private void noteReadsOf(int scan, Transaction reader) {
            int table = parameter(scan, 0);
            // what takes one tree stands right behind that tree's root
            for (int above = scan + 1; above < count && isFilter(above); above++) {
                if (asksForKey(above)) {
                    reader.readKey(table, parameter(above, 2));
                    return;
                }
            }
            reader.readWhole(table);
        }

        private boolean asksForKey(int operator) {
            return kinds[operator] == OP_FILTER && parameter(operator, 0) == 0
                    && parameter(operator, 1) == SAME && parameter(operator, 3) == 0;
        }

        boolean isViewable() {
            for (int i = 0; i < count; i++) {
                boolean isPlain = kinds[i] == OP_SCAN || isFilter(i) || kinds[i] == OP_KEEP || isInnerJoin(i);
                if (!isPlain && !(i == count - 1 && isViewableGroup(i))) {
                    return false;
                }
            }
            return true;
        }

        private boolean isViewableGroup(int operator) {
            int how = parameter(operator, 1);
            return kinds[operator] == OP_GROUP && parameter(operator, 0) != NONE && (how == COUNT || how == SUM);
        }
    }

    /** Rows of one width. */
    private static final class Relation {
        final int[] cells = new int[MOST_ROWS * WIDEST];
        int rows;
        int width;

        void reset(int newWidth) {
            rows = 0;
            width = newWidth;
        }

        void copyFrom(Relation other) {
            if (other == null) {
                return;
            }
            rows = other.rows;
            width = other.width;
            System.arraycopy(other.cells, 0, cells, 0, rows * width);
        }

        boolean hasCell(int row, int column) {
            return row >= 0 && row < rows && column >= 0 && column < width;
        }

        int cell(int row, int column) {
            return cells[row * width + column];
        }

        void add(int[] from, int start) {
            if (rows < MOST_ROWS) {
                System.arraycopy(from, start, cells, rows * width, width);
                rows++;
            }
        }

        void addRow(Relation from, int row) {
            add(from.cells, row * from.width);
        }

        /** Adds a row of each put together; NONE stands for NULL in all columns. */
        void addPair(Relation left, int leftRow, Relation right, int rightRow) {
            if (rows < MOST_ROWS) {
                fillPart(0, left, leftRow);
                fillPart(left.width, right, rightRow);
                rows++;
            }
        }

        private void fillPart(int column, Relation from, int row) {
            int start = rows * width + column;
            if (row == NONE) {
                Arrays.fill(cells, start, start + from.width, NULL);
            } else {
                System.arraycopy(from.cells, row * from.width, cells, start, from.width);
            }
        }

        /** Adds the row unless it is there already. */
        void addOnce(Relation from, int row) {
            if (!holds(from, row)) {
                addRow(from, row);
            }
        }

        boolean holds(Relation from, int row) {
            for (int i = 0; i < rows; i++) {
                if (compareRows(i, from, row) == 0) {
                    return true;
                }
            }
            return false;
        }

        /** NULL is the least int, so it comes ahead of all values without more ado. */
        int compareRows(int row, Relation other, int otherRow) {
            for (int column = 0; column < width; column++) {
                int sign = Integer.compare(cells[row * width + column], other.cells[otherRow * width + column]);
                if (sign != 0) {
                    return sign;
                }
            }
            return 0;
        }

        /** Puts the rows' numbers into order, rising by what the rows hold. */
        void orderInto(int[] order, int[] spare) {
            for (int i = 0; i < rows; i++) {
                order[i] = i;
            }
            for (int size = 1; size < rows; size *= 2) {
                for (int from = 0; from < rows; from += 2 * size) {
                    merge(order, spare, from, Math.min(from + size, rows), Math.min(from + 2 * size, rows));
                }
                System.arraycopy(spare, 0, order, 0, rows);
            }
        }

        private void merge(int[] order, int[] spare, int from, int middle, int end) {
            int left = from;
            int right = middle;
            for (int i = from; i < end; i++) {
                if (right >= end || left < middle && compareRows(order[left], this, order[right]) <= 0) {
                    spare[i] = order[left];
                    left++;
                } else {
                    spare[i] = order[right];
                    right++;
                }
            }
        }
    }

    /** Runs queries by loops over all rows, with the same few relations each time. */
    private static final class Evaluator {
        final Schema schema;
        final Relation[] stack = new Relation[SCANS + 1];
        final int[] order = new int[MOST_ROWS];
        final int[] spare = new int[MOST_ROWS];
        final boolean[] isMatched = new boolean[MOST_ROWS];
        int depth;
        boolean hasFailed;

        Evaluator(Schema schema) {
            this.schema = schema;
            for (int i = 0; i < stack.length; i++) {
                stack[i] = new Relation();
            }
        }

        /** What the query gives, by rising rows, until the next call; null if it fails. */
        Relation evaluate(Query query, Rows rows, int role) {
            depth = 0;
            hasFailed = false;
            for (int operator = 0; operator < query.count && !hasFailed; operator++) {
                step(query, operator, rows, role);
            }
            if (hasFailed || depth != 1) {
                return null;
            }
            Relation result = stack[0];
            result.orderInto(order, spare);
            stack[1].reset(result.width);
            for (int i = 0; i < result.rows; i++) {
                stack[1].addRow(result, order[i]);
            }
            return stack[1];
        }

        /** The relation behind those on the stack takes what the operator gives, then the place of what it took. */
        private void step(Query query, int operator, Rows rows, int role) {
            int kind = query.kinds[operator];
            int operands = kind == OP_SCAN ? 0 : kind == OP_JOIN || kind == OP_SET ? 2 : 1;
            if (depth < operands || depth >= stack.length) {
                hasFailed = true;
                return;
            }
            Relation out = stack[depth];
            out.reset(query.widths[operator]);
            if (operands == 0) {
                scanInto(out, query.parameter(operator, 0), rows, role);
            } else if (operands == 1) {
                changeInto(out, stack[depth - 1], query, operator);
            } else if (kind == OP_JOIN) {
                joinInto(out, stack[depth - 2], stack[depth - 1], query, operator);
            } else {
                combineInto(out, stack[depth - 2], stack[depth - 1], query.parameter(operator, 0));
            }
            int target = depth - operands;
            stack[depth] = stack[target];
            stack[target] = out;
            depth = target + 1;
        }

        private void scanInto(Relation out, int table, Rows rows, int role) {
            for (int place = table * ROWS; place < (table + 1) * ROWS; place++) {
                int start = Rows.startOf(place);
                if (rows.keyAt(place) != NULL && schema.isSeen(role, table, rows.cells, start)) {
                    out.add(rows.cells, start);
                }
            }
        }

        private void changeInto(Relation out, Relation in, Query query, int operator) {
            int a = query.parameter(operator, 0);
            int b = query.parameter(operator, 1);
            int c = query.parameter(operator, 2);
            boolean isNot = query.parameter(operator, 3) != 0;
            switch (query.kinds[operator]) {
                case OP_FILTER:
                    filterInto(out, in, a, b, c, isNot);
                    break;
                case OP_PAIR:
                    pairInto(out, in, a, b, c, isNot);
                    break;
                case OP_RATIO:
                    ratioInto(out, in, a, b, c);
                    break;
                case OP_KEEP:
                    keepInto(out, in, a);
                    break;
                default:
                    groupInto(out, in, a, b, c);
            }
        }

        private void filterInto(Relation out, Relation in, int column, int how, int value, boolean isNot) {
            for (int row = 0; row < in.rows; row++) {
                if (compared(in.cell(row, column), how, value) == (isNot ? FALSE : TRUE)) {
                    out.addRow(in, row);
                }
            }
        }

        private void pairInto(Relation out, Relation in, int column, int how, int other, boolean isNot) {
            for (int row = 0; row < in.rows; row++) {
                if (compared(in.cell(row, column), how, in.cell(row, other)) == (isNot ? FALSE : TRUE)) {
                    out.addRow(in, row);
                }
            }
        }

        private void ratioInto(Relation out, Relation in, int column, int divisor, int value) {
            for (int row = 0; row < in.rows; row++) {
                int first = in.cell(row, column);
                int second = in.cell(row, divisor);
                if (first == NULL || second == NULL) {
                    continue;
                }
                if (second == 0) {
                    hasFailed = true;
                } else if (first / second == value) {
                    out.addRow(in, row);
                }
            }
        }

        private void keepInto(Relation out, Relation in, int columns) {
            for (int row = 0; row < in.rows; row++) {
                int to = row * out.width;
                for (int column = 0; column < in.width; column++) {
                    if ((columns >> column & 1) != 0) {
                        out.cells[to] = in.cell(row, column);
                        to++;
                    }
                }
            }
            out.rows = in.rows;
        }

        private void groupInto(Relation out, Relation in, int column, int how, int of) {
            if (column == NONE) {
                addGroup(out, NULL, how);
            }
            for (int row = 0; row < in.rows; row++) {
                int value = column == NONE ? NULL : in.cell(row, column);
                int found = groupOf(out, value);
                if (found == NONE) {
                    addGroup(out, value, how);
                    found = out.rows - 1;
                }
                int place = found * out.width + 1;
                out.cells[place] = gathered(out.cells[place], how, in.cell(row, of));
            }
        }

        private static int groupOf(Relation groups, int value) {
            for (int i = 0; i < groups.rows; i++) {
                if (groups.cell(i, 0) == value) {
                    return i;
                }
            }
            return NONE;
        }

        private static void addGroup(Relation groups, int value, int how) {
            int start = groups.rows * groups.width;
            groups.cells[start] = value;
            groups.cells[start + 1] = how == COUNT ? 0 : NULL;
            groups.rows++;
        }

        private static int gathered(int soFar, int how, int value) {
            if (how == COUNT) {
                return soFar + 1;
            }
            if (value == NULL) {
                return soFar;
            }
            if (soFar == NULL) {
                return value;
            }
            return how == SUM ? soFar + value : how == LEAST ? Math.min(soFar, value) : Math.max(soFar, value);
        }

        private void joinInto(Relation out, Relation left, Relation right, Query query, int operator) {
            int kind = query.parameter(operator, 0);
            int leftColumn = query.parameter(operator, 1);
            int rightColumn = query.parameter(operator, 2);
            for (int other = 0; other < right.rows; other++) {
                isMatched[other] = false;
            }
            for (int row = 0; row < left.rows; row++) {
                boolean isAlone = true;
                for (int other = 0; other < right.rows; other++) {
                    if (compared(left.cell(row, leftColumn), SAME, right.cell(other, rightColumn)) != TRUE) {
                        continue;
                    }
                    isAlone = false;
                    isMatched[other] = true;
                    if (kind <= FULL) {
                        out.addPair(left, row, right, other);
                    }
                }
                addLeft(out, left, row, right, kind, isAlone);
            }
            for (int other = 0; other < right.rows && kind == FULL; other++) {
                if (!isMatched[other]) {
                    out.addPair(left, NONE, right, other);
                }
            }
        }

        private static void addLeft(Relation out, Relation left, int row, Relation right, int kind, boolean isAlone) {
            if (isAlone && (kind == LEFT || kind == FULL)) {
                out.addPair(left, row, right, NONE);
            } else if (kind == (isAlone ? ANTI : SEMI)) {
                out.addRow(left, row);
            }
        }

        private static void combineInto(Relation out, Relation first, Relation second, int kind) {
            for (int row = 0; row < first.rows; row++) {
                if (kind == UNION || second.holds(first, row) == (kind == COMMON)) {
                    out.addOnce(first, row);
                }
            }
            for (int row = 0; row < second.rows && kind == UNION; row++) {
                out.addOnce(second, row);
            }
        }
    }

    /** The statistics, and the search for the order of joins that costs least by them. */
    private static final class Planner {
        static final int USUAL = 10;

        final int[] tableRows = new int[TABLES];
        final int[] distinct = new int[TABLES * COLUMNS];
        final boolean[] isReached = new boolean[OPERATORS];
        final int[] offsets = new int[OPERATORS];
        int leaves;
        final int[] leafRows = new int[SCANS];
        final boolean[] isScanLeaf = new boolean[SCANS];
        final int[] leafOfColumn = new int[WIDEST];
        final int[] valuesOfColumn = new int[WIDEST];
        int joins;
        final int[] joinLefts = new int[OPERATORS];
        final int[] joinRights = new int[OPERATORS];
        final int[] tried = new int[SCANS];
        int found;

        void takeStatistics(Schema schema, Rows stored) {
            for (int table = 0; table < schema.tables; table++) {
                tableRows[table] = stored.count(table);
                for (int column = 0; column < schema.widths[table]; column++) {
                    distinct[table * COLUMNS + column] = countDistinct(stored, table, column);
                }
            }
        }

        private static int countDistinct(Rows stored, int table, int column) {
            int differing = 0;
            for (int row = 0; row < ROWS; row++) {
                int value = stored.cells[Rows.startOf(table * ROWS + row) + column];
                boolean isNew = value != NULL;
                for (int earlier = 0; earlier < row; earlier++) {
                    isNew &= stored.cells[Rows.startOf(table * ROWS + earlier) + column] != value;
                }
                if (isNew) {
                    differing++;
                }
            }
            return differing;
        }

        /** Finds the plan of a query, if it has a block. */
        void plan(Query query) {
            int top = topOfBlock(query);
            if (top == NONE) {
                return;
            }
            reach(query, top);
            describeLeaves(query);
            applyFilters(query, top);
            gatherJoins(query, top);
            chooseOrder(query);
            found++;
        }

        private static int topOfBlock(Query query) {
            int top = query.count - 1;
            // what takes one tree stands right behind it, so its tree's root is the operator before
            for (int i = query.count - 1; i > 0 && isPassed(query, i); i--) {
                top = i - 1;
            }
            return top >= 0 && query.isInnerJoin(top) ? top : NONE;
        }

        private static boolean isPassed(Query query, int operator) {
            return query.isFilter(operator) || query.kinds[operator] == OP_KEEP || query.kinds[operator] == OP_GROUP;
        }

        /** Marks what is reached from the block's first join, and where its columns begin among those of that join. */
        private void reach(Query query, int top) {
            for (int operator = 0; operator < OPERATORS; operator++) {
                isReached[operator] = false;
            }
            isReached[top] = true;
            offsets[top] = 0;
            for (int operator = top; operator >= 0; operator--) {
                if (isReached[operator] && isInner(query, operator)) {
                    reachOperands(query, operator);
                }
            }
        }

        private static boolean isInner(Query query, int operator) {
            return query.isInnerJoin(operator) || query.isFilter(operator);
        }

        private void reachOperands(Query query, int operator) {
            int first = query.firsts[operator];
            int second = query.seconds[operator];
            isReached[first] = true;
            offsets[first] = offsets[operator];
            if (second != NONE) {
                isReached[second] = true;
                offsets[second] = offsets[operator] + query.widths[first];
            }
        }

        private void describeLeaves(Query query) {
            leaves = 0;
            for (int operator = 0; operator < query.count && leaves < SCANS; operator++) {
                if (!isReached[operator] || isInner(query, operator)) {
                    continue;
                }
                boolean isScan = query.kinds[operator] == OP_SCAN;
                int table = isScan ? query.parameter(operator, 0) : 0;
                leafRows[leaves] = isScan ? tableRows[table] : USUAL;
                isScanLeaf[leaves] = isScan;
                for (int column = 0; column < query.widths[operator]; column++) {
                    int place = offsets[operator] + column;
                    leafOfColumn[place] = leaves;
                    valuesOfColumn[place] = isScan ? distinct[table * COLUMNS + column] : USUAL;
                }
                leaves++;
            }
        }

        private void applyFilters(Query query, int top) {
            for (int operator = 0; operator < top; operator++) {
                if (!isReached[operator] || query.kinds[operator] != OP_FILTER) {
                    continue;
                }
                int place = offsets[operator] + query.parameter(operator, 0);
                int leaf = leafOfColumn[place];
                boolean isSame = query.parameter(operator, 1) == SAME && query.parameter(operator, 3) == 0;
                if (isScanLeaf[leaf]) {
                    leafRows[leaf] = divided(leafRows[leaf], isSame ? valuesOfColumn[place] : 3);
                }
            }
        }

        /** An estimate never falls below 1 by a division. */
        private static int divided(int rows, int divisor) {
            return Math.max(1, divisor > 0 ? rows / divisor : rows);
        }

        private void gatherJoins(Query query, int top) {
            joins = 0;
            for (int operator = 0; operator <= top; operator++) {
                if (isReached[operator] && query.isInnerJoin(operator)) {
                    joinLefts[joins] = offsets[operator] + query.parameter(operator, 1);
                    joinRights[joins] = offsets[query.seconds[operator]] + query.parameter(operator, 2);
                    joins++;
                }
            }
        }

        /** Tries all orders, the lower leaves first, so that of several with the least cost the first one stays. */
        private void chooseOrder(Query query) {
            int codes = 1;
            for (int i = 0; i < leaves; i++) {
                codes *= leaves;
            }
            query.isPlanned = false;
            for (int code = 0; code < codes; code++) {
                if (!spellsOrder(code)) {
                    continue;
                }
                int cost = costOfTried();
                if (!query.isPlanned || cost < query.cost) {
                    query.isPlanned = true;
                    query.cost = cost;
                    query.leaves = leaves;
                    System.arraycopy(tried, 0, query.order, 0, leaves);
                }
            }
        }

        /** Reads a code's digits as an order; answers whether each leaf comes once. */
        private boolean spellsOrder(int code) {
            int rest = code;
            int seen = 0;
            for (int place = leaves - 1; place >= 0; place--) {
                tried[place] = rest % leaves;
                rest /= leaves;
                seen |= 1 << tried[place];
            }
            return Integer.bitCount(seen) == leaves;
        }

        private int costOfTried() {
            int rows = leafRows[tried[0]];
            int ahead = 1 << tried[0];
            int cost = 0;
            for (int place = 1; place < leaves; place++) {
                int leaf = tried[place];
                rows *= leafRows[leaf];
                for (int join = 0; join < joins; join++) {
                    if (connects(join, leaf, ahead)) {
                        rows = divided(rows, Math.max(valuesOfColumn[joinLefts[join]], valuesOfColumn[joinRights[join]]));
                    }
                }
                cost += rows;
                ahead |= 1 << leaf;
            }
            return cost;
        }

        private boolean connects(int join, int leaf, int ahead) {
            int left = leafOfColumn[joinLefts[join]];
            int right = leafOfColumn[joinRights[join]];
            return left == leaf && (ahead >> right & 1) != 0 || right == leaf && (ahead >> left & 1) != 0;
        }
    }
}
