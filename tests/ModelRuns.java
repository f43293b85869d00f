import java.util.ArrayList;
import java.util.Arrays;
import java.util.Collections;
import java.util.HashMap;
import java.util.HashSet;
import java.util.List;
import java.util.Map;
import java.util.Set;
import java.util.TreeMap;
import java.util.TreeSet;

/**
 * Plays the same calls, chosen by a fixed row of numbers, on RowForge and on a slow model that is written
 * straight from the document, and tells the first call of a run whose answers differ.
 */
public final class ModelRuns {
    static final int NULL = RowForge.NULL;
    static final int NONE = RowForge.NONE;

    /** Stands for an exception in the model; what a call throws is compared by its name. */
    static final class Refusal extends RuntimeException {
        final String name;

        Refusal(String name) {
            super(name, null, false, false);
            this.name = name;
        }
    }

    static void index(boolean ok) {
        if (!ok) {
            throw new Refusal("IndexOutOfBoundsException");
        }
    }

    static void argument(boolean ok) {
        if (!ok) {
            throw new Refusal("IllegalArgumentException");
        }
    }

    static void state(boolean ok) {
        if (!ok) {
            throw new Refusal("IllegalStateException");
        }
    }

    static boolean number(int v) {
        return v >= -1000 && v <= 1000;
    }

    /** Null is UNKNOWN. */
    static Boolean truth(int a, int how, int b) {
        if (a == NULL || b == NULL) {
            return null;
        }
        switch (how) {
            case 0:
                return a < b;
            case 1:
                return a == b;
            default:
                return a > b;
        }
    }

    static final class Tab {
        int columns;
        List<int[]> checks = new ArrayList<>();
        TreeMap<Integer, int[]> references = new TreeMap<>();
    }

    static final class Base {
        List<TreeMap<Integer, int[]>> tables = new ArrayList<>();

        Base copy() {
            Base b = new Base();
            for (TreeMap<Integer, int[]> t : tables) {
                TreeMap<Integer, int[]> c = new TreeMap<>();
                for (Map.Entry<Integer, int[]> e : t.entrySet()) {
                    c.put(e.getKey(), e.getValue().clone());
                }
                b.tables.add(c);
            }
            return b;
        }
    }

    static final class Rec {
        int kind;
        int tx;
        int table = NULL;
        int key = NULL;
        int[] image;
    }

    static final class Tx {
        int number;
        int role;
        int state;
        int outcome = NONE;
        int waits = NONE;
        int began;
        Base own;
        Set<List<Integer>> written = new TreeSet<>(ModelRuns::byTableAndKey);
        Set<List<Integer>> keysRead = new HashSet<>();
        Set<Integer> tablesRead = new HashSet<>();
        int[] pending;
        int[] row;
    }

    static int byTableAndKey(List<Integer> a, List<Integer> b) {
        int c = Integer.compare(a.get(0), b.get(0));
        return c != 0 ? c : Integer.compare(a.get(1), b.get(1));
    }

    static final class Node {
        String kind;
        int a;
        int b;
        int c;
        boolean not;
        Node left;
        Node right;
        int width;
        int size;
        int scans;

        Node(String kind, int width, Node left, Node right) {
            this.kind = kind;
            this.width = width;
            this.left = left;
            this.right = right;
            size = 1 + (left == null ? 0 : left.size) + (right == null ? 0 : right.size);
            scans = (kind.equals("scan") ? 1 : 0) + (left == null ? 0 : left.scans) + (right == null ? 0 : right.scans);
        }
    }

    static final class Plan {
        int cost;
        int[] order;
    }

    static final class Model {
        List<Tab> tabs = new ArrayList<>();
        List<int[]> veils = new ArrayList<>();
        Base committed = new Base();
        List<Tx> txs = new ArrayList<>();
        List<Set<List<Integer>>> commits = new ArrayList<>();
        List<Rec> log = new ArrayList<>();
        int flushed;
        List<Integer> draft = new ArrayList<>();
        List<Node> trees = new ArrayList<>();
        List<Node> queries = new ArrayList<>();
        Map<Integer, Plan> plans = new HashMap<>();
        int planned;
        List<int[]> last = new ArrayList<>();
        List<Integer> views = new ArrayList<>();
        int[] statRows = new int[6];
        int[][] statValues = new int[6][4];

        boolean hasTable(int t) {
            return t >= 0 && t < tabs.size();
        }

        boolean hasColumn(int t, int c) {
            return hasTable(t) && c >= 0 && c < tabs.get(t).columns;
        }

        boolean hasTx(int t) {
            return t >= 0 && t < txs.size();
        }

        boolean open(Tx t) {
            return t.state == 0 || t.state == 1;
        }

        int openCount() {
            int n = 0;
            for (Tx t : txs) {
                n += open(t) ? 1 : 0;
            }
            return n;
        }

        int table(int columns) {
            argument(columns >= 1 && columns <= 4);
            state(tabs.size() < 6 && openCount() == 0);
            Tab t = new Tab();
            t.columns = columns;
            tabs.add(t);
            committed.tables.add(new TreeMap<>());
            plans.clear();
            return tabs.size() - 1;
        }

        int check(int table, int column, int how, int value) {
            index(hasColumn(table, column));
            argument(how >= 0 && how <= 2 && number(value));
            state(tabs.get(table).checks.size() < 4 && committed.tables.get(table).isEmpty() && openCount() == 0);
            tabs.get(table).checks.add(new int[] {column, how, value});
            plans.clear();
            return tabs.get(table).checks.size();
        }

        int refer(int table, int column, int target, int rule) {
            index(hasColumn(table, column) && column > 0 && hasTable(target));
            argument(rule >= 0 && rule <= 2);
            state(!tabs.get(table).references.containsKey(column) && committed.tables.get(table).isEmpty() && openCount() == 0);
            tabs.get(table).references.put(column, new int[] {target, rule});
            plans.clear();
            return 0;
        }

        int veil(int role, int table, int column, int how, int value) {
            index(role >= 1 && role <= 3 && hasColumn(table, column));
            argument(how >= 0 && how <= 2 && number(value));
            state(veils.size() < 12 && openCount() == 0);
            veils.add(new int[] {role, table, column, how, value});
            plans.clear();
            return veils.size();
        }

        int begin(int role) {
            index(role >= 0 && role <= 3);
            state(openCount() < 4 && txs.size() < 60);
            Tx t = new Tx();
            t.number = txs.size();
            t.role = role;
            t.began = commits.size();
            t.own = committed.copy();
            txs.add(t);
            return t.number;
        }

        int value(int value) {
            argument(number(value) || value == NULL);
            state(draft.size() < 4);
            draft.add(value);
            return draft.size();
        }

        int insert(int tx, int table) {
            index(hasTx(tx) && hasTable(table));
            state(txs.get(tx).state == 0 && draft.size() == tabs.get(table).columns);
            Tx t = txs.get(tx);
            t.row = new int[draft.size()];
            for (int i = 0; i < t.row.length; i++) {
                t.row[i] = draft.get(i);
            }
            draft.clear();
            t.pending = new int[] {0, table};
            return write(t);
        }

        int update(int tx, int table, int key, int column, int value) {
            index(hasTx(tx) && hasColumn(table, column) && column != 0);
            argument(number(value) || value == NULL);
            state(txs.get(tx).state == 0);
            Tx t = txs.get(tx);
            t.pending = new int[] {1, table, key, column, value};
            return write(t);
        }

        int delete(int tx, int table, int key) {
            index(hasTx(tx) && hasTable(table));
            state(txs.get(tx).state == 0);
            Tx t = txs.get(tx);
            t.pending = new int[] {2, table, key};
            return write(t);
        }

        int write(Tx t) {
            t.outcome = attempt(t);
            int answer = t.outcome;
            settle();
            return answer;
        }

        boolean seen(int role, int table, int[] row) {
            for (int[] v : veils) {
                if (v[0] == role && v[1] == table && !Boolean.TRUE.equals(truth(row[v[2]], v[3], v[4]))) {
                    return false;
                }
            }
            return true;
        }

        boolean checksHold(int table, int[] row) {
            for (int[] c : tabs.get(table).checks) {
                if (Boolean.FALSE.equals(truth(row[c[0]], c[1], c[2]))) {
                    return false;
                }
            }
            return true;
        }

        /** The own state after the write, or null if it is refused; the rows that it writes are put into touched. */
        Base outcomeOf(Tx t, Set<List<Integer>> touched) {
            int table = t.pending[1];
            if (t.pending[0] == 0) {
                return afterInsert(t, table, touched);
            }
            int key = t.pending[2];
            t.keysRead.add(List.of(table, key));
            int[] row = t.own.tables.get(table).get(key);
            if (t.pending[0] == 1) {
                int[] reference = tabs.get(table).references.get(t.pending[3]);
                boolean dangling = false;
                if (reference != null && t.pending[4] != NULL) {
                    t.keysRead.add(List.of(reference[0], t.pending[4]));
                    dangling = !t.own.tables.get(reference[0]).containsKey(t.pending[4]);
                }
                if (row == null || !seen(t.role, table, row) || dangling) {
                    return null;
                }
                Base after = t.own.copy();
                int[] changed = after.tables.get(table).get(key);
                changed[t.pending[3]] = t.pending[4];
                touched.add(List.of(table, key));
                return checksHold(table, changed) ? after : null;
            }
            return row == null || !seen(t.role, table, row) ? null : afterDelete(t, table, key, touched);
        }

        Base afterInsert(Tx t, int table, Set<List<Integer>> touched) {
            int key = t.row[0];
            boolean fits = key != NULL && checksHold(table, t.row);
            if (key != NULL) {
                t.keysRead.add(List.of(table, key));
                fits &= !t.own.tables.get(table).containsKey(key);
            }
            fits &= t.own.tables.get(table).size() < 8;
            for (Map.Entry<Integer, int[]> r : tabs.get(table).references.entrySet()) {
                int v = t.row[r.getKey()];
                if (v != NULL) {
                    t.keysRead.add(List.of(r.getValue()[0], v));
                    fits &= t.own.tables.get(r.getValue()[0]).containsKey(v);
                }
            }
            if (!fits) {
                return null;
            }
            Base after = t.own.copy();
            after.tables.get(table).put(key, t.row.clone());
            touched.add(List.of(table, key));
            return after;
        }

        interface RowVisit {
            void see(int table, int[] row, int column, int target, int rule);
        }

        void eachReference(Base base, RowVisit visit) {
            for (int table = 0; table < tabs.size(); table++) {
                for (int[] row : base.tables.get(table).values()) {
                    for (Map.Entry<Integer, int[]> r : tabs.get(table).references.entrySet()) {
                        if (row[r.getKey()] != NULL) {
                            visit.see(table, row, r.getKey(), r.getValue()[0], r.getValue()[1]);
                        }
                    }
                }
            }
        }

        Base afterDelete(Tx t, int table, int key, Set<List<Integer>> touched) {
            Set<List<Integer>> gone = new TreeSet<>(ModelRuns::byTableAndKey);
            gone.add(List.of(table, key));
            int before;
            do {
                before = gone.size();
                eachReference(t.own, (tab, row, column, target, rule) -> {
                    if (rule == RowForge.CASCADE && gone.contains(List.of(target, row[column]))) {
                        gone.add(List.of(tab, row[0]));
                    }
                });
            } while (gone.size() != before);
            for (int tab = 0; tab < tabs.size(); tab++) {
                for (int[] r : tabs.get(tab).references.values()) {
                    for (List<Integer> g : gone) {
                        if (g.get(0) == r[0]) {
                            t.tablesRead.add(tab);
                        }
                    }
                }
            }
            boolean[] refused = new boolean[1];
            Base after = t.own.copy();
            eachReference(t.own, (tab, row, column, target, rule) -> {
                if (!gone.contains(List.of(tab, row[0])) && gone.contains(List.of(target, row[column]))) {
                    if (rule == RowForge.RESTRICT) {
                        refused[0] = true;
                    } else {
                        after.tables.get(tab).get(row[0])[column] = NULL;
                        touched.add(List.of(tab, row[0]));
                    }
                }
            });
            for (List<Integer> g : gone) {
                after.tables.get(g.get(0)).remove(g.get(1));
                touched.add(g);
            }
            return refused[0] ? null : after;
        }

        boolean committedSince(Tx t, List<Integer> row) {
            for (int i = t.began; i < commits.size(); i++) {
                if (commits.get(i).contains(row)) {
                    return true;
                }
            }
            return false;
        }

        int attempt(Tx t) {
            Set<List<Integer>> touched = new TreeSet<>(ModelRuns::byTableAndKey);
            Base after = outcomeOf(t, touched);
            if (after == null) {
                return RowForge.REFUSED;
            }
            for (List<Integer> row : touched) {
                for (Tx other : txs) {
                    if (other != t && open(other) && other.written.contains(row)) {
                        return blockedBy(t, other);
                    }
                }
            }
            for (List<Integer> row : touched) {
                if (committedSince(t, row)) {
                    end(t);
                    return RowForge.FAILED;
                }
            }
            t.own = after;
            for (List<Integer> row : touched) {
                t.written.add(row);
                int[] image = after.tables.get(row.get(0)).get(row.get(1));
                record(RowForge.WRITE, t.number, row.get(0), row.get(1), image == null ? null : image.clone());
            }
            return RowForge.DONE;
        }

        int blockedBy(Tx t, Tx other) {
            Set<Integer> seen = new HashSet<>();
            int next = other.number;
            while (next != NONE && seen.add(next)) {
                if (next == t.number) {
                    end(t);
                    return RowForge.VICTIM;
                }
                Tx n = txs.get(next);
                next = n.state == 1 ? n.waits : NONE;
            }
            t.state = 1;
            t.waits = other.number;
            return RowForge.WAITS;
        }

        void record(int kind, int tx, int table, int key, int[] image) {
            Rec r = new Rec();
            r.kind = kind;
            r.tx = tx;
            r.table = table;
            r.key = key;
            r.image = image;
            log.add(r);
        }

        /** Aborts: an UNDO for each WRITE that is not undone yet, and an ABORT. */
        int end(Tx t) {
            t.state = 3;
            t.waits = NONE;
            return undo(t.number);
        }

        int undo(int tx) {
            List<Rec> left = new ArrayList<>();
            for (Rec r : log) {
                if (r.tx == tx && r.kind == RowForge.WRITE) {
                    left.add(r);
                }
            }
            for (Rec r : log) {
                if (r.tx == tx && r.kind == RowForge.UNDO) {
                    Rec w = left.remove(left.size() - 1);
                    if (w.table != r.table || w.key != r.key) {
                        throw new Error("the model's own log is wrong");
                    }
                }
            }
            Collections.reverse(left);
            for (Rec r : left) {
                record(RowForge.UNDO, tx, r.table, r.key, null);
            }
            record(RowForge.ABORT, tx, NULL, NULL, null);
            return left.size();
        }

        void settle() {
            boolean again = true;
            while (again) {
                again = false;
                for (Tx t : txs) {
                    if (t.state == 1 && !open(txs.get(t.waits))) {
                        t.state = 0;
                        t.waits = NONE;
                        t.outcome = attempt(t);
                        again = true;
                        break;
                    }
                }
            }
        }

        int commit(int tx) {
            index(hasTx(tx));
            Tx t = txs.get(tx);
            state(t.state == 0);
            boolean failed = false;
            for (int i = t.began; i < commits.size(); i++) {
                for (List<Integer> row : commits.get(i)) {
                    failed |= t.keysRead.contains(row) || t.tablesRead.contains(row.get(0));
                }
            }
            Base after = committed.copy();
            for (List<Integer> row : t.written) {
                int[] mine = t.own.tables.get(row.get(0)).get(row.get(1));
                if (mine == null) {
                    after.tables.get(row.get(0)).remove(row.get(1));
                } else {
                    after.tables.get(row.get(0)).put(row.get(1), mine.clone());
                }
            }
            for (TreeMap<Integer, int[]> rows : after.tables) {
                failed |= rows.size() > 8;
            }
            if (failed) {
                end(t);
            } else {
                committed = after;
                commits.add(t.written);
                t.state = 2;
                record(RowForge.COMMIT, tx, NULL, NULL, null);
                flushed = log.size();
            }
            settle();
            return failed ? RowForge.FAILED : RowForge.DONE;
        }

        int abort(int tx) {
            index(hasTx(tx));
            state(open(txs.get(tx)));
            int n = end(txs.get(tx));
            settle();
            return n;
        }

        int stateOf(int tx) {
            index(hasTx(tx));
            return txs.get(tx).state;
        }

        int outcome(int tx) {
            index(hasTx(tx));
            return txs.get(tx).outcome;
        }

        int waitsFor(int tx) {
            index(hasTx(tx));
            return txs.get(tx).waits;
        }

        int hasRead(int tx, int table, int key) {
            index(hasTx(tx) && hasTable(table));
            Tx t = txs.get(tx);
            return t.tablesRead.contains(table) || t.keysRead.contains(List.of(table, key)) ? 1 : 0;
        }

        static int cell(Base base, int table, int key, int column) {
            int[] row = base.tables.get(table).get(key);
            return row == null ? NULL : row[column];
        }

        int own(int tx, int table, int key, int column) {
            index(hasTx(tx) && hasColumn(table, column));
            return open(txs.get(tx)) ? cell(txs.get(tx).own, table, key, column) : NULL;
        }

        int committed(int table, int key, int column) {
            index(hasColumn(table, column));
            return cell(committed, table, key, column);
        }

        int committedByLog(int table, int key, int column) {
            return committed(table, key, column);
        }

        int rowsOf(int table) {
            index(hasTable(table));
            return committed.tables.get(table).size();
        }

        int operators() {
            int n = 0;
            for (Node t : trees) {
                n += t.size;
            }
            return n;
        }

        int scan(int table) {
            index(hasTable(table));
            int scans = 0;
            for (Node t : trees) {
                scans += t.scans;
            }
            state(trees.size() < 6 && operators() < 12 && scans < 3);
            Node n = new Node("scan", tabs.get(table).columns, null, null);
            n.a = table;
            trees.add(n);
            return trees.size();
        }

        Node top(int below) {
            return trees.get(trees.size() - 1 - below);
        }

        int put(Node n, int taken, int a, int b, int c, boolean not) {
            n.a = a;
            n.b = b;
            n.c = c;
            n.not = not;
            for (int i = 0; i < taken; i++) {
                trees.remove(trees.size() - 1);
            }
            trees.add(n);
            return trees.size();
        }

        int filter(int column, int how, int value, boolean isNot) {
            state(!trees.isEmpty() && operators() < 12);
            index(column >= 0 && column < top(0).width);
            argument(how >= 0 && how <= 2 && (number(value) || value == NULL));
            return put(new Node("filter", top(0).width, top(0), null), 1, column, how, value, isNot);
        }

        int filterColumns(int column, int how, int other, boolean isNot) {
            state(!trees.isEmpty() && operators() < 12);
            index(column >= 0 && column < top(0).width && other >= 0 && other < top(0).width);
            argument(how >= 0 && how <= 2);
            return put(new Node("pair", top(0).width, top(0), null), 1, column, how, other, isNot);
        }

        int ratio(int column, int divisor, int value) {
            state(!trees.isEmpty() && operators() < 12);
            index(column >= 0 && column < top(0).width && divisor >= 0 && divisor < top(0).width);
            argument(number(value));
            return put(new Node("ratio", top(0).width, top(0), null), 1, column, divisor, value, false);
        }

        int join(int kind, int left, int right) {
            state(trees.size() >= 2 && operators() < 12);
            boolean half = kind == RowForge.SEMI || kind == RowForge.ANTI;
            state(half || top(0).width + top(1).width <= 10);
            index(left >= 0 && left < top(1).width && right >= 0 && right < top(0).width);
            argument(kind >= 0 && kind <= 4);
            int width = half ? top(1).width : top(0).width + top(1).width;
            return put(new Node("join", width, top(1), top(0)), 2, kind, left, right, false);
        }

        int keep(int columns) {
            state(!trees.isEmpty() && operators() < 12);
            int all = (1 << top(0).width) - 1;
            argument(columns != 0 && (columns & ~all) == 0);
            return put(new Node("keep", Integer.bitCount(columns), top(0), null), 1, columns, 0, 0, false);
        }

        int group(int column, int how, int of) {
            state(!trees.isEmpty() && operators() < 12);
            int w = top(0).width;
            index(column == NONE || column >= 0 && column < w);
            index(how == RowForge.COUNT || of >= 0 && of < w);
            argument(how >= 0 && how <= 3);
            return put(new Node("group", 2, top(0), null), 1, column, how, of, false);
        }

        int combine(int kind) {
            state(trees.size() >= 2 && operators() < 12);
            state(top(0).width == top(1).width);
            argument(kind >= 0 && kind <= 2);
            return put(new Node("set", top(0).width, top(1), top(0)), 2, kind, 0, 0, false);
        }

        int scrap() {
            int n = trees.size();
            trees.clear();
            return n;
        }

        int query() {
            state(trees.size() == 1 && queries.size() < 20);
            queries.add(trees.remove(0));
            return queries.size() - 1;
        }

        boolean hasQuery(int q) {
            return q >= 0 && q < queries.size();
        }

        List<int[]> rowsOfNode(Node n, Base base, int role) {
            List<int[]> left = n.left == null ? null : rowsOfNode(n.left, base, role);
            List<int[]> right = n.right == null ? null : rowsOfNode(n.right, base, role);
            List<int[]> out = new ArrayList<>();
            switch (n.kind) {
                case "scan":
                    for (int[] row : base.tables.get(n.a).values()) {
                        if (seen(role, n.a, row)) {
                            out.add(row);
                        }
                    }
                    return out;
                case "filter":
                case "pair":
                    for (int[] row : left) {
                        Boolean is = truth(row[n.a], n.b, n.kind.equals("pair") ? row[n.c] : n.c);
                        if (is != null && is != n.not) {
                            out.add(row);
                        }
                    }
                    return out;
                case "ratio":
                    for (int[] row : left) {
                        if (row[n.a] != NULL && row[n.b] != NULL) {
                            if (row[n.b] == 0) {
                                throw new Refusal("ArithmeticException");
                            }
                            if (row[n.a] / row[n.b] == n.c) {
                                out.add(row);
                            }
                        }
                    }
                    return out;
                case "keep":
                    for (int[] row : left) {
                        int[] kept = new int[n.width];
                        int k = 0;
                        for (int i = 0; i < row.length; i++) {
                            if ((n.a & 1 << i) != 0) {
                                kept[k++] = row[i];
                            }
                        }
                        out.add(kept);
                    }
                    return out;
                case "group":
                    return grouped(n, left);
                case "set":
                    return combined(n, left, right);
                default:
                    return joined(n, left, right);
            }
        }

        List<int[]> grouped(Node n, List<int[]> in) {
            TreeMap<Integer, List<int[]>> groups = new TreeMap<>();
            if (n.a == NONE) {
                groups.put(NULL, in);
            } else {
                for (int[] row : in) {
                    groups.computeIfAbsent(row[n.a], k -> new ArrayList<>()).add(row);
                }
            }
            List<int[]> out = new ArrayList<>();
            for (Map.Entry<Integer, List<int[]>> g : groups.entrySet()) {
                List<Integer> values = new ArrayList<>();
                for (int[] row : g.getValue()) {
                    if (n.b != RowForge.COUNT && row[n.c] != NULL) {
                        values.add(row[n.c]);
                    }
                }
                int result = NULL;
                if (n.b == RowForge.COUNT) {
                    result = g.getValue().size();
                } else if (n.b == RowForge.SUM && !values.isEmpty()) {
                    result = values.stream().mapToInt(v -> v).sum();
                } else if (!values.isEmpty()) {
                    result = n.b == RowForge.LEAST ? Collections.min(values) : Collections.max(values);
                }
                out.add(new int[] {g.getKey(), result});
            }
            return out;
        }

        static boolean among(List<int[]> rows, int[] row) {
            for (int[] r : rows) {
                if (Arrays.equals(r, row)) {
                    return true;
                }
            }
            return false;
        }

        static List<int[]> combined(Node n, List<int[]> left, List<int[]> right) {
            List<int[]> out = new ArrayList<>();
            List<int[]> all = new ArrayList<>(left);
            all.addAll(right);
            for (int[] row : all) {
                boolean a = among(left, row);
                boolean b = among(right, row);
                boolean is = n.a == RowForge.UNION ? a || b : n.a == RowForge.COMMON ? a && b : a && !b;
                if (is && !among(out, row)) {
                    out.add(row);
                }
            }
            return out;
        }

        static int[] together(int[] a, int[] b) {
            int[] c = Arrays.copyOf(a, a.length + b.length);
            System.arraycopy(b, 0, c, a.length, b.length);
            return c;
        }

        static int[] blank(int width) {
            int[] c = new int[width];
            Arrays.fill(c, NULL);
            return c;
        }

        static boolean meets(Node n, int[] a, int[] b) {
            return Boolean.TRUE.equals(truth(a[n.b], RowForge.SAME, b[n.c]));
        }

        static List<int[]> joined(Node n, List<int[]> left, List<int[]> right) {
            List<int[]> out = new ArrayList<>();
            boolean whole = n.a == RowForge.INNER || n.a == RowForge.LEFT || n.a == RowForge.FULL;
            for (int[] a : left) {
                int met = 0;
                for (int[] b : right) {
                    if (meets(n, a, b)) {
                        met++;
                        if (whole) {
                            out.add(together(a, b));
                        }
                    }
                }
                if (met == 0 && (n.a == RowForge.LEFT || n.a == RowForge.FULL)) {
                    out.add(together(a, blank(n.right.width)));
                }
                if (n.a == RowForge.SEMI && met > 0 || n.a == RowForge.ANTI && met == 0) {
                    out.add(a);
                }
            }
            for (int[] b : right) {
                int met = 0;
                for (int[] a : left) {
                    met += meets(n, a, b) ? 1 : 0;
                }
                if (met == 0 && n.a == RowForge.FULL) {
                    out.add(together(blank(n.left.width), b));
                }
            }
            return out;
        }

        static int byCells(int[] a, int[] b) {
            for (int i = 0; i < a.length; i++) {
                if (a[i] != b[i]) {
                    return a[i] == NULL ? -1 : b[i] == NULL ? 1 : Integer.compare(a[i], b[i]);
                }
            }
            return 0;
        }

        List<int[]> answer(Node n, Base base, int role) {
            List<int[]> rows = new ArrayList<>(rowsOfNode(n, base, role));
            rows.sort(Model::byCells);
            return rows;
        }

        void read(Node n, Tx t, Integer key) {
            if (n == null) {
                return;
            }
            if (n.kind.equals("scan")) {
                if (key == null) {
                    t.tablesRead.add(n.a);
                } else {
                    t.keysRead.add(List.of(n.a, key));
                }
            } else if (n.kind.equals("filter") && n.a == 0 && n.b == RowForge.SAME && !n.not) {
                // a lower one takes the place of what was found above
                read(n.left, t, n.c);
            } else if (n.kind.equals("filter") || n.kind.equals("pair")) {
                read(n.left, t, key);
            } else {
                read(n.left, t, null);
                read(n.right, t, null);
            }
        }

        int run(int tx, int query) {
            index(hasTx(tx) && hasQuery(query));
            Tx t = txs.get(tx);
            state(t.state == 0);
            List<int[]> rows = answer(queries.get(query), t.own, t.role);
            last = rows;
            lastWidth = queries.get(query).width;
            read(queries.get(query), t, null);
            return rows.size();
        }

        int lastWidth;

        int at(int row, int column) {
            index(row >= 0 && row < last.size() && column >= 0 && column < lastWidth);
            return last.get(row)[column];
        }

        int atByLoops(int tx, int query, int row, int column) {
            index(hasTx(tx) && hasQuery(query));
            Tx t = txs.get(tx);
            state(t.state == 0);
            List<int[]> rows = answer(queries.get(query), t.own, t.role);
            index(row >= 0 && row < rows.size() && column >= 0 && column < queries.get(query).width);
            return rows.get(row)[column];
        }

        int analyze() {
            for (int t = 0; t < tabs.size(); t++) {
                statRows[t] = committed.tables.get(t).size();
                for (int c = 0; c < tabs.get(t).columns; c++) {
                    Set<Integer> values = new HashSet<>();
                    for (int[] row : committed.tables.get(t).values()) {
                        values.add(row[c]);
                    }
                    values.remove(NULL);
                    statValues[t][c] = values.size();
                }
            }
            int n = plans.size();
            plans.clear();
            return n;
        }

        boolean inner(Node n) {
            return n.kind.equals("join") && n.a == RowForge.INNER;
        }

        static final class Leaf {
            int rows;
            Node node;
        }

        List<Leaf> leaves;
        List<int[]> joins;

        /** The columns of a part of the block: of each one the leaf, and how many values differ; filters divide on the way. */
        List<int[]> block(Node n) {
            if (inner(n)) {
                List<int[]> columns = block(n.left);
                List<int[]> others = block(n.right);
                int[] a = columns.get(n.b);
                int[] b = others.get(n.c);
                joins.add(new int[] {a[0], b[0], Math.max(a[1], b[1])});
                columns.addAll(others);
                return columns;
            }
            if (n.kind.equals("filter") || n.kind.equals("pair")) {
                List<int[]> columns = block(n.left);
                int[] c = columns.get(n.a);
                Leaf leaf = leaves.get(c[0]);
                if (n.kind.equals("filter") && leaf.node.kind.equals("scan")) {
                    int by = n.b == RowForge.SAME && !n.not ? c[1] : 3;
                    leaf.rows = Math.max(1, leaf.rows / (by == 0 ? 1 : by));
                }
                return columns;
            }
            Leaf leaf = new Leaf();
            leaf.node = n;
            boolean scan = n.kind.equals("scan");
            leaf.rows = scan ? statRows[n.a] : 10;
            leaves.add(leaf);
            List<int[]> columns = new ArrayList<>();
            for (int i = 0; i < n.width; i++) {
                columns.add(new int[] {leaves.size() - 1, scan ? statValues[n.a][i] : 10});
            }
            return columns;
        }

        int costOf(List<Integer> order) {
            int rows = leaves.get(order.get(0)).rows;
            int cost = 0;
            for (int i = 1; i < order.size(); i++) {
                rows *= leaves.get(order.get(i)).rows;
                for (int[] j : joins) {
                    int first = order.indexOf(j[0]);
                    int second = order.indexOf(j[1]);
                    if (Math.max(first, second) == i) {
                        rows = Math.max(1, rows / (j[2] == 0 ? 1 : j[2]));
                    }
                }
                cost += rows;
            }
            return cost;
        }

        void orders(List<Integer> done, Plan best) {
            if (done.size() == leaves.size()) {
                int cost = costOf(done);
                if (best.order == null || cost < best.cost) {
                    best.cost = cost;
                    best.order = done.stream().mapToInt(v -> v).toArray();
                }
                return;
            }
            for (int i = 0; i < leaves.size(); i++) {
                if (!done.contains(i)) {
                    done.add(i);
                    orders(done, best);
                    done.remove(done.size() - 1);
                }
            }
        }

        int prepare(int query) {
            index(hasQuery(query));
            if (plans.containsKey(query)) {
                return plans.get(query).cost;
            }
            Node n = queries.get(query);
            while (n.kind.equals("filter") || n.kind.equals("pair") || n.kind.equals("keep") || n.kind.equals("group")) {
                n = n.left;
            }
            if (!inner(n)) {
                return NONE;
            }
            leaves = new ArrayList<>();
            joins = new ArrayList<>();
            block(n);
            Plan best = new Plan();
            orders(new ArrayList<>(), best);
            plans.put(query, best);
            planned++;
            return best.cost;
        }

        int planAt(int query, int place) {
            index(hasQuery(query));
            state(plans.containsKey(query));
            int[] order = plans.get(query).order;
            return place < 0 || place >= order.length ? NONE : order[place];
        }

        int planned() {
            return planned;
        }

        boolean viewable(Node n, boolean root) {
            if (n.kind.equals("group")) {
                return root && n.a != NONE && (n.b == RowForge.COUNT || n.b == RowForge.SUM) && viewable(n.left, false);
            }
            if (n.kind.equals("scan")) {
                return true;
            }
            if (n.kind.equals("filter") || n.kind.equals("pair") || n.kind.equals("keep")) {
                return viewable(n.left, false);
            }
            return inner(n) && viewable(n.left, false) && viewable(n.right, false);
        }

        int view(int query) {
            index(hasQuery(query));
            state(viewable(queries.get(query), true) && views.size() < 6);
            views.add(query);
            return views.size() - 1;
        }

        int viewRows(int view) {
            index(view >= 0 && view < views.size());
            return answer(queries.get(views.get(view)), committed, 0).size();
        }

        int viewAt(int view, int row, int column) {
            index(view >= 0 && view < views.size());
            Node n = queries.get(views.get(view));
            List<int[]> rows = answer(n, committed, 0);
            index(row >= 0 && row < rows.size() && column >= 0 && column < n.width);
            return rows.get(row)[column];
        }

        int checkpoint() {
            record(RowForge.CHECK, NONE, NULL, NULL, null);
            flushed = log.size();
            return flushed;
        }

        int crash(int place) {
            index(place >= flushed && place <= log.size());
            while (log.size() > place) {
                log.remove(log.size() - 1);
            }
            for (Tx t : txs) {
                if (open(t)) {
                    t.state = 3;
                    t.waits = NONE;
                }
            }
            int undone = 0;
            for (Tx t : txs) {
                boolean wrote = false;
                boolean ended = false;
                for (Rec r : log) {
                    wrote |= r.tx == t.number && r.kind == RowForge.WRITE;
                    ended |= r.tx == t.number && (r.kind == RowForge.COMMIT || r.kind == RowForge.ABORT);
                }
                if (wrote && !ended) {
                    undone += undo(t.number);
                }
            }
            flushed = log.size();
            // what is committed has to come back from what is left of the log
            Base back = new Base();
            for (int i = 0; i < tabs.size(); i++) {
                back.tables.add(new TreeMap<>());
            }
            for (Rec c : log) {
                if (c.kind == RowForge.COMMIT) {
                    for (Rec r : log) {
                        if (r.kind == RowForge.WRITE && r.tx == c.tx) {
                            if (r.image == null) {
                                back.tables.get(r.table).remove(r.key);
                            } else {
                                back.tables.get(r.table).put(r.key, r.image.clone());
                            }
                        }
                    }
                }
            }
            committed = back;
            return undone;
        }

        int recordKind(int r) {
            index(r >= 0 && r < log.size());
            return log.get(r).kind;
        }

        int recordOf(int r) {
            index(r >= 0 && r < log.size());
            return log.get(r).tx;
        }

        int recordAt(int r, boolean isKey) {
            index(r >= 0 && r < log.size());
            return isKey ? log.get(r).key : log.get(r).table;
        }
    }

    static final String[] NAMES = {"table", "check", "refer", "veil", "begin", "value", "insert", "update", "delete",
        "commit", "abort", "state", "outcome", "waitsFor", "hasRead", "own", "committed", "committedByLog", "rowsOf",
        "scan", "filter", "filterColumns", "ratio", "join", "keep", "group", "combine", "scrap", "query", "run", "at",
        "atByLoops", "analyze", "prepare", "planAt", "planned", "view", "viewRows", "viewAt", "viewAnew", "checkpoint",
        "crash", "records", "flushed", "recordKind", "recordOf", "recordAt"};

    static int code(String name) {
        for (int i = 0; i < NAMES.length; i++) {
            if (NAMES[i].equals(name)) {
                return i;
            }
        }
        throw new Error(name);
    }

    static int real(RowForge r, int[] c) {
        switch (NAMES[c[0]]) {
            case "table": return r.table(c[1]);
            case "check": return r.check(c[1], c[2], c[3], c[4]);
            case "refer": r.refer(c[1], c[2], c[3], c[4]); return 0;
            case "veil": return r.veil(c[1], c[2], c[3], c[4], c[5]);
            case "begin": return r.begin(c[1]);
            case "value": return r.value(c[1]);
            case "insert": return r.insert(c[1], c[2]);
            case "update": return r.update(c[1], c[2], c[3], c[4], c[5]);
            case "delete": return r.delete(c[1], c[2], c[3]);
            case "commit": return r.commit(c[1]);
            case "abort": return r.abort(c[1]);
            case "state": return r.state(c[1]);
            case "outcome": return r.outcome(c[1]);
            case "waitsFor": return r.waitsFor(c[1]);
            case "hasRead": return r.hasRead(c[1], c[2], c[3]) ? 1 : 0;
            case "own": return r.own(c[1], c[2], c[3], c[4]);
            case "committed": return r.committed(c[1], c[2], c[3]);
            case "committedByLog": return r.committedByLog(c[1], c[2], c[3]);
            case "rowsOf": return r.rowsOf(c[1]);
            case "scan": return r.scan(c[1]);
            case "filter": return r.filter(c[1], c[2], c[3], c[4] != 0);
            case "filterColumns": return r.filterColumns(c[1], c[2], c[3], c[4] != 0);
            case "ratio": return r.ratio(c[1], c[2], c[3]);
            case "join": return r.join(c[1], c[2], c[3]);
            case "keep": return r.keep(c[1]);
            case "group": return r.group(c[1], c[2], c[3]);
            case "combine": return r.combine(c[1]);
            case "scrap": return r.scrap();
            case "query": return r.query();
            case "run": return r.run(c[1], c[2]);
            case "at": return r.at(c[1], c[2]);
            case "atByLoops": return r.atByLoops(c[1], c[2], c[3], c[4]);
            case "analyze": return r.analyze();
            case "prepare": return r.prepare(c[1]);
            case "planAt": return r.planAt(c[1], c[2]);
            case "planned": return r.planned();
            case "view": return r.view(c[1]);
            case "viewRows": return r.viewRows(c[1]);
            case "viewAt": return r.viewAt(c[1], c[2], c[3]);
            case "viewAnew": return r.viewAnew(c[1], c[2], c[3]);
            case "checkpoint": return r.checkpoint();
            case "crash": return r.crash(c[1]);
            case "records": return r.records();
            case "flushed": return r.flushed();
            case "recordKind": return r.recordKind(c[1]);
            case "recordOf": return r.recordOf(c[1]);
            default: return r.recordAt(c[1], c[2] != 0);
        }
    }

    static int model(Model m, int[] c) {
        switch (NAMES[c[0]]) {
            case "table": return m.table(c[1]);
            case "check": return m.check(c[1], c[2], c[3], c[4]);
            case "refer": return m.refer(c[1], c[2], c[3], c[4]);
            case "veil": return m.veil(c[1], c[2], c[3], c[4], c[5]);
            case "begin": return m.begin(c[1]);
            case "value": return m.value(c[1]);
            case "insert": return m.insert(c[1], c[2]);
            case "update": return m.update(c[1], c[2], c[3], c[4], c[5]);
            case "delete": return m.delete(c[1], c[2], c[3]);
            case "commit": return m.commit(c[1]);
            case "abort": return m.abort(c[1]);
            case "state": return m.stateOf(c[1]);
            case "outcome": return m.outcome(c[1]);
            case "waitsFor": return m.waitsFor(c[1]);
            case "hasRead": return m.hasRead(c[1], c[2], c[3]);
            case "own": return m.own(c[1], c[2], c[3], c[4]);
            case "committed": return m.committed(c[1], c[2], c[3]);
            case "committedByLog": return m.committedByLog(c[1], c[2], c[3]);
            case "rowsOf": return m.rowsOf(c[1]);
            case "scan": return m.scan(c[1]);
            case "filter": return m.filter(c[1], c[2], c[3], c[4] != 0);
            case "filterColumns": return m.filterColumns(c[1], c[2], c[3], c[4] != 0);
            case "ratio": return m.ratio(c[1], c[2], c[3]);
            case "join": return m.join(c[1], c[2], c[3]);
            case "keep": return m.keep(c[1]);
            case "group": return m.group(c[1], c[2], c[3]);
            case "combine": return m.combine(c[1]);
            case "scrap": return m.scrap();
            case "query": return m.query();
            case "run": return m.run(c[1], c[2]);
            case "at": return m.at(c[1], c[2]);
            case "atByLoops": return m.atByLoops(c[1], c[2], c[3], c[4]);
            case "analyze": return m.analyze();
            case "prepare": return m.prepare(c[1]);
            case "planAt": return m.planAt(c[1], c[2]);
            case "planned": return m.planned();
            case "view": return m.view(c[1]);
            case "viewRows": return m.viewRows(c[1]);
            case "viewAt": return m.viewAt(c[1], c[2], c[3]);
            case "viewAnew": return m.viewAt(c[1], c[2], c[3]);
            case "checkpoint": return m.checkpoint();
            case "crash": return m.crash(c[1]);
            case "records": return m.log.size();
            case "flushed": return m.flushed;
            case "recordKind": return m.recordKind(c[1]);
            case "recordOf": return m.recordOf(c[1]);
            default: return m.recordAt(c[1], c[2] != 0);
        }
    }

    static String realAnswer(RowForge r, int[] c) {
        try {
            return Integer.toString(real(r, c));
        } catch (RuntimeException e) {
            return "throws." + e.getClass().getSimpleName();
        }
    }

    static String modelAnswer(Model m, int[] c) {
        try {
            return Integer.toString(model(m, c));
        } catch (Refusal e) {
            return "throws." + e.name;
        }
    }

    /** Chooses calls, looking at the model so that most of them have something to do. */
    static final class Chooser {
        static final String[] QUESTIONS = {"state", "outcome", "waitsFor", "hasRead", "own", "committed", "committedByLog",
            "rowsOf", "at", "at", "atByLoops", "planAt", "planned", "viewRows", "viewAt", "viewAnew", "records", "flushed",
            "recordKind", "recordOf", "recordAt", "committed", "committedByLog", "own", "hasRead"};
        final java.util.Random chance;
        final Model m;
        final ArrayList<int[]> queue = new ArrayList<>();
        final int style;
        final int keys;
        boolean isBuilding;
        boolean isLoaded;

        Chooser(int seed, Model m) {
            chance = new java.util.Random(seed * 7919L + 13);
            this.m = m;
            style = chance.nextInt(5);
            keys = 2 + chance.nextInt(9);
        }

        int upTo(int n) {
            return chance.nextInt(n);
        }

        boolean rarely() {
            return upTo(40) == 0;
        }

        int odd() {
            int[] all = {-1, 0, 1, 2, 3, 4, 5, 6, 7, 8, 9, 10, 12, 20, 60, 1000, 1001, -1000, -1001, -2, NULL, Integer.MAX_VALUE};
            return all[upTo(all.length)];
        }

        int tableNumber() {
            return rarely() || m.tabs.isEmpty() ? odd() : upTo(m.tabs.size());
        }

        int column(int table) {
            return rarely() || !m.hasTable(table) ? odd() : upTo(m.tabs.get(table).columns);
        }

        int otherColumn(int table) {
            int c = column(table);
            return c == 0 && m.hasTable(table) && m.tabs.get(table).columns > 1 && !rarely() ? 1 : c;
        }

        /** Mostly the key of a row that is there, by the committed rows or those of a transaction. */
        int keyOfRow(int table) {
            Base base = m.committed;
            for (Tx t : m.txs) {
                if (m.open(t) && upTo(3) == 0) {
                    base = t.own;
                }
            }
            if (!m.hasTable(table) || base.tables.size() <= table || base.tables.get(table).isEmpty() || upTo(6) == 0) {
                return key();
            }
            List<Integer> all = new ArrayList<>(base.tables.get(table).keySet());
            return all.get(upTo(all.size()));
        }

        /** A value that suits a column: the key of a row for a reference, if one is near. */
        int suiting(int table, int column) {
            int[] reference = m.hasTable(table) ? m.tabs.get(table).references.get(column) : null;
            if (reference == null || upTo(12) == 0) {
                return plain();
            }
            return upTo(5) == 0 ? NULL : keyOfRow(reference[0]);
        }

        int key() {
            int k = upTo(60);
            return k == 0 ? odd() : k == 1 ? 1000 : k == 2 ? -1000 : upTo(keys);
        }

        int plain() {
            int k = upTo(30);
            return k == 0 ? odd() : k < 4 ? NULL : k == 5 ? -upTo(9) : upTo(keys);
        }

        int how() {
            return rarely() ? odd() : upTo(3);
        }

        int transaction() {
            if (rarely() || m.txs.isEmpty()) {
                return odd();
            }
            List<Integer> active = new ArrayList<>();
            for (Tx t : m.txs) {
                if (t.state == 0 || t.state == 1 && upTo(6) == 0) {
                    active.add(t.number);
                }
            }
            return active.isEmpty() || upTo(20) == 0 ? upTo(m.txs.size()) : active.get(upTo(active.size()));
        }

        int queryNumber() {
            return rarely() || m.queries.isEmpty() ? odd() : upTo(m.queries.size());
        }

        int viewNumber() {
            return rarely() || m.views.isEmpty() ? odd() : upTo(m.views.size());
        }

        int record() {
            return rarely() || m.log.isEmpty() ? odd() : upTo(m.log.size());
        }

        int width() {
            return m.trees.isEmpty() ? 1 : m.top(0).width;
        }

        int treeColumn() {
            return rarely() ? odd() : upTo(2) == 0 ? 0 : upTo(width());
        }

        int[] call(String name, int... values) {
            int[] c = new int[6];
            c[0] = code(name);
            System.arraycopy(values, 0, c, 1, values.length);
            return c;
        }

        void setUp() {
            int tables = 1 + upTo(rarely() ? 8 : 5);
            for (int i = 0; i < tables; i++) {
                queue.add(call("table", rarely() ? odd() : 1 + upTo(4)));
            }
        }

        int[] schemaCall() {
            int table = tableNumber();
            switch (upTo(style == 1 ? 16 : 9)) {
                case 0:
                    boolean isLow = upTo(2) == 0;
                    return upTo(3) == 0 ? call("check", table, column(table), how(), plain())
                            : call("check", table, column(table), isLow ? 2 : 0, isLow ? -upTo(4) - 1 : 6 + upTo(5));
                case 1:
                    return call("veil", rarely() ? odd() : 1 + upTo(3), table, column(table), how(), plain());
                case 2:
                    return call("table", 1 + upTo(4));
                default:
                    return call("refer", table, otherColumn(table), tableNumber(), rarely() ? odd() : upTo(3));
            }
        }

        int[] next(int step) {
            if (!queue.isEmpty()) {
                return queue.remove(0);
            }
            if (step < 14 || upTo(150) == 0) {
                return schemaCall();
            }
            if (!isLoaded) {
                isLoaded = true;
                preload();
                return queue.remove(0);
            }
            if (isBuilding && upTo(12) > 0) {
                return operator();
            }
            int kind = upTo(100);
            if (kind < 30) {
                return question();
            }
            if (kind < 34 || m.openCount() < 2 && upTo(2) == 0) {
                return call("begin", rarely() ? odd() : upTo(3) == 0 ? upTo(4) : 0);
            }
            if (kind < (style == 2 ? 45 : 70)) {
                return write();
            }
            if (kind < (style == 3 ? 73 : 76)) {
                return call(upTo(5) > 0 ? "commit" : "abort", transaction());
            }
            return style == 4 && upTo(2) == 0 ? logCall() : queryCall();
        }

        int[] logCall() {
            if (upTo(3) > 0) {
                return call("checkpoint");
            }
            return call("crash", rarely() ? odd() : m.flushed + upTo(m.log.size() - m.flushed + 1));
        }

        int[] queryCall() {
            switch (upTo(12)) {
                case 0: case 1:
                    isBuilding = true;
                    return call("scan", tableNumber());
                case 2: case 3: case 4: case 5:
                    return call("run", transaction(), queryNumber());
                case 6:
                    return call("analyze");
                case 7: case 8:
                    return call("prepare", queryNumber());
                case 9:
                    return call("view", queryNumber());
                case 10:
                    return upTo(4) == 0 ? logCall() : call("run", transaction(), queryNumber());
                default:
                    return call("scrap");
            }
        }

        int[] write() {
            int table = tableNumber();
            int kind = upTo(10);
            if (kind < 5) {
                int columns = m.hasTable(table) ? m.tabs.get(table).columns : 1;
                int missing = rarely() ? 1 + upTo(4) : columns - m.draft.size();
                int k = m.draft.size();
                for (int i = 0; i < missing; i++) {
                    queue.add(call("value", k + i == 0 ? upTo(40) == 0 ? NULL : key() : suiting(table, k + i)));
                }
                queue.add(call("insert", transaction(), table));
                return queue.remove(0);
            }
            int column = otherColumn(table);
            return kind < 8 ? call("update", transaction(), table, keyOfRow(table), column, suiting(table, column))
                    : call("delete", transaction(), table, keyOfRow(table));
        }

        /** Rows for the tables to begin with, as references want them. */
        void preload() {
            int number = m.txs.size();
            queue.add(call("begin", 0));
            for (int table = 0; table < m.tabs.size(); table++) {
                int rows = upTo(upTo(4) == 0 ? 9 : 6);
                for (int k = 0; k < rows; k++) {
                    for (int c = 0; c < m.tabs.get(table).columns; c++) {
                        int[] reference = m.tabs.get(table).references.get(c);
                        queue.add(call("value", c == 0 ? k : reference != null && upTo(3) == 0 ? NULL : upTo(reference == null ? 7 : 4)));
                    }
                    queue.add(call("insert", number, table));
                }
            }
            // where it stays open, the transaction 0 waits and is waited for, too
            if (upTo(6) > 0) {
                queue.add(call("commit", number));
            }
        }

        int[] operator() {
            if (m.trees.isEmpty()) {
                return call("scan", tableNumber());
            }
            int kind = upTo(16);
            if (m.trees.size() > 1 && kind < 6) {
                return kind == 5 ? call("combine", rarely() ? odd() : upTo(3))
                        : call("join", rarely() ? odd() : upTo(2) == 0 ? 0 : upTo(5),
                            upTo(3) > 0 ? upTo(m.top(1).width) : treeColumn(), treeColumn());
            }
            if (kind < 8) {
                return call("scan", tableNumber());
            }
            switch (kind) {
                case 8: case 9:
                    return call("filter", treeColumn(), how(), plain(), upTo(3) == 0 ? 1 : 0);
                case 10:
                    return call("filterColumns", treeColumn(), how(), treeColumn(), upTo(2));
                case 11:
                    return call("ratio", treeColumn(), treeColumn(), plain());
                case 12:
                    return call("keep", rarely() ? odd() : upTo(3) == 0 ? (1 << width()) - 1 : 1 + upTo((1 << width()) - 1));
                case 13:
                    return call("group", upTo(5) == 0 ? NONE : treeColumn(), rarely() ? odd() : upTo(4), treeColumn());
                default:
                    isBuilding = m.trees.size() != 1;
                    return call("query");
            }
        }

        int[] question() {
            String name = QUESTIONS[upTo(QUESTIONS.length)];
            int table = tableNumber();
            int small = upTo(12) == 0 ? odd() : upTo(3);
            int column = upTo(30) == 0 ? odd() : upTo(3);
            switch (name) {
                case "state": case "outcome": case "waitsFor":
                    return call(name, transaction());
                case "hasRead":
                    return call(name, transaction(), table, keyOfRow(table));
                case "own":
                    return call(name, transaction(), table, keyOfRow(table), column(table));
                case "committed": case "committedByLog":
                    return call(name, table, keyOfRow(table), column(table));
                case "rowsOf":
                    return call(name, table);
                case "at":
                    if (!m.last.isEmpty() && upTo(5) > 0) {
                        return call(name, upTo(m.last.size()), upTo(m.lastWidth));
                    }
                    return call(name, small, column);
                case "atByLoops":
                    return call(name, transaction(), queryNumber(), small, column);
                case "planAt":
                    return call(name, queryNumber(), upTo(5) - 1);
                case "viewRows":
                    return call(name, viewNumber());
                case "viewAt": case "viewAnew":
                    return call(name, viewNumber(), small, column);
                case "recordKind": case "recordOf": case "recordAt":
                    return call(name, record(), upTo(2));
                default:
                    return call(name);
            }
        }
    }

    static final Map<String, Integer> TALLY = new java.util.TreeMap<>();

    static boolean play(int seed) {
        RowForge r = new RowForge();
        Model m = new Model();
        Chooser chooser = new Chooser(seed, m);
        chooser.setUp();
        StringBuilder told = new StringBuilder();
        for (int step = 0; step < 512; step++) {
            int[] c = step > 380 ? chooser.question() : chooser.next(step);
            String is = realAnswer(r, c);
            String due = modelAnswer(m, c);
            told.append(NAMES[c[0]]).append(Arrays.toString(Arrays.copyOfRange(c, 1, 6))).append(" -> ").append(is).append('\n');
            if (due.startsWith("throws") || c[0] >= 6 && c[0] <= 9) {
                TALLY.merge(NAMES[c[0]] + " " + due, 1, Integer::sum);
            } else {
                TALLY.merge(NAMES[c[0]] + (due.equals("" + NULL) ? " NULL" : due.equals("-1") ? " NONE" : ""), 1, Integer::sum);
            }
            if (!is.equals(due)) {
                System.out.print(told);
                System.out.println("run " + seed + ", call " + step + ": due is " + due);
                return false;
            }
        }
        return true;
    }

    public static void main(String[] args) {
        int runs = 1500;
        int wrong = 0;
        for (int seed = 0; seed < runs && wrong == 0; seed++) {
            wrong += play(seed) ? 0 : 1;
        }
        if (System.getProperty("tally") != null) {
            System.out.println(TALLY);
        }
        System.out.println(wrong == 0 ? runs + " runs as the model has them" : "a run differs from the model");
        System.exit(wrong == 0 ? 0 : 1);
    }
}
