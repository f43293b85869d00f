import java.util.ArrayList;
import java.util.List;
import java.util.Map;

/**
 * For each promise some runs of calls, each on a new object. A line of a run is a call and its answer:
 * "table 3 = 0", or "table 5 ! IAE" for one that throws. "row 0 1 7 NULL = DONE" puts the values 7 and NULL and
 * inserts them by the transaction 0 into the table 1; "rows 0 1 1,5 2,6" does so for each row, all DONE.
 */
public final class PromiseTests {
    static final Map<String, Integer> NAMED = new java.util.HashMap<>();
    static int wrong;
    static int calls;
    static final List<Integer> seen = new ArrayList<>();

    static void names(String list, int first) {
        for (String name : list.split(" ")) {
            NAMED.put(name, first++);
        }
    }

    static {
        names("NONE", -1);
        names("NULL", Integer.MIN_VALUE);
        names("LESS SAME MORE", 0);
        names("RESTRICT CASCADE BLANK", 0);
        names("INNER LEFT FULL SEMI ANTI", 0);
        names("COUNT SUM LEAST GREATEST", 0);
        names("UNION COMMON WITHOUT", 0);
        names("ACTIVE WAITING COMMITTED ABORTED", 0);
        names("DONE WAITS REFUSED FAILED VICTIM", 0);
        names("WRITE COMMIT UNDO ABORT CHECK", 0);
        names("no yes", 0);
        names("MAX", Integer.MAX_VALUE);
    }

    static int number(String word) {
        Integer named = NAMED.get(word);
        return named != null ? named : Integer.parseInt(word);
    }

    static int call(RowForge r, String[] w) {
        int[] a = new int[7];
        for (int i = 1; i < w.length; i++) {
            a[i] = number(w[i]);
        }
        switch (w[0]) {
            case "table": return r.table(a[1]);
            case "check": return r.check(a[1], a[2], a[3], a[4]);
            case "refer": r.refer(a[1], a[2], a[3], a[4]); return 0;
            case "veil": return r.veil(a[1], a[2], a[3], a[4], a[5]);
            case "begin": return r.begin(a[1]);
            case "value": return r.value(a[1]);
            case "insert": return r.insert(a[1], a[2]);
            case "update": return r.update(a[1], a[2], a[3], a[4], a[5]);
            case "delete": return r.delete(a[1], a[2], a[3]);
            case "commit": return r.commit(a[1]);
            case "abort": return r.abort(a[1]);
            case "state": return r.state(a[1]);
            case "outcome": return r.outcome(a[1]);
            case "waitsFor": return r.waitsFor(a[1]);
            case "hasRead": return r.hasRead(a[1], a[2], a[3]) ? 1 : 0;
            case "own": return r.own(a[1], a[2], a[3], a[4]);
            case "committed": return r.committed(a[1], a[2], a[3]);
            case "committedByLog": return r.committedByLog(a[1], a[2], a[3]);
            case "rowsOf": return r.rowsOf(a[1]);
            default: return callMore(r, w[0], a);
        }
    }

    static int callMore(RowForge r, String name, int[] a) {
        switch (name) {
            case "scan": return r.scan(a[1]);
            case "filter": return r.filter(a[1], a[2], a[3], a[4] != 0);
            case "filterColumns": return r.filterColumns(a[1], a[2], a[3], a[4] != 0);
            case "ratio": return r.ratio(a[1], a[2], a[3]);
            case "join": return r.join(a[1], a[2], a[3]);
            case "keep": return r.keep(a[1]);
            case "group": return r.group(a[1], a[2], a[3]);
            case "combine": return r.combine(a[1]);
            case "scrap": return r.scrap();
            case "query": return r.query();
            case "run": return r.run(a[1], a[2]);
            case "at": return r.at(a[1], a[2]);
            case "atByLoops": return r.atByLoops(a[1], a[2], a[3], a[4]);
            case "analyze": return r.analyze();
            case "prepare": return r.prepare(a[1]);
            case "planAt": return r.planAt(a[1], a[2]);
            case "planned": return r.planned();
            case "view": return r.view(a[1]);
            case "viewRows": return r.viewRows(a[1]);
            case "viewAt": return r.viewAt(a[1], a[2], a[3]);
            case "viewAnew": return r.viewAnew(a[1], a[2], a[3]);
            case "checkpoint": return r.checkpoint();
            case "crash": return r.crash(a[1]);
            case "records": return r.records();
            case "flushed": return r.flushed();
            case "recordKind": return r.recordKind(a[1]);
            case "recordOf": return r.recordOf(a[1]);
            case "recordAt": return r.recordAt(a[1], a[2] != 0);
            default: throw new Error("no such call: " + name);
        }
    }

    static String answer(RowForge r, String text) {
        calls++;
        try {
            return Integer.toString(call(r, text.trim().split(" +")));
        } catch (IndexOutOfBoundsException e) {
            return e.getClass() == IndexOutOfBoundsException.class ? "IOOBE" : e.toString();
        } catch (IllegalArgumentException e) {
            return e.getClass() == IllegalArgumentException.class ? "IAE" : e.toString();
        } catch (IllegalStateException e) {
            return e.getClass() == IllegalStateException.class ? "ISE" : e.toString();
        } catch (ArithmeticException e) {
            return "AE";
        }
    }

    static void demand(int promise, RowForge r, String text, String due) {
        String is = answer(r, text);
        String want = due.length() > 2 && due.endsWith("E") && !NAMED.containsKey(due) ? due : due.equals("AE") ? due : "" + number(due);
        if (!is.equals(want)) {
            wrong++;
            System.out.println("promise " + promise + ": " + text.trim() + " answered " + is + ", due is " + due);
        }
    }

    /** Rows of a result as "1,5 2,NULL", asked cell by cell. */
    static void demandRows(int promise, RowForge r, String ask, String due) {
        String[] rows = due.trim().isEmpty() ? new String[0] : due.trim().split(" +");
        for (int i = 0; i < rows.length; i++) {
            String[] cells = rows[i].split(",");
            for (int c = 0; c < cells.length; c++) {
                demand(promise, r, ask + " " + i + " " + c, cells[c]);
            }
            demand(promise, r, ask + " " + i + " " + cells.length, "IOOBE");
            demand(promise, r, ask + " " + i + " -1", "IOOBE");
        }
        demand(promise, r, ask + " " + rows.length + " 0", "IOOBE");
        demand(promise, r, ask + " -1 0", "IOOBE");
    }

    static void line(int promise, RowForge r, String text) {
        String[] w = text.trim().split(" +");
        if (w[0].equals("rows")) {
            for (int i = 3; i < w.length; i++) {
                line(promise, r, "row " + w[1] + " " + w[2] + " " + w[i].replace(',', ' ') + " = DONE");
            }
        } else if (w[0].equals("row")) {
            for (int i = 3; i < w.length - 2; i++) {
                demand(promise, r, "value " + w[i], "" + (i - 2));
            }
            demand(promise, r, "insert " + w[1] + " " + w[2], w[w.length - 1]);
        } else if (w[0].equals("gives")) {
            // gives TX QUERY : rows, by run and by loops
            String due = text.substring(text.indexOf(':') + 1);
            demand(promise, r, "run " + w[1] + " " + w[2], "" + (due.trim().isEmpty() ? 0 : due.trim().split(" +").length));
            demandRows(promise, r, "at", due);
            demandRows(promise, r, "atByLoops " + w[1] + " " + w[2], due);
        } else if (w[0].equals("shows")) {
            String due = text.substring(text.indexOf(':') + 1);
            demand(promise, r, "viewRows " + w[1], "" + (due.trim().isEmpty() ? 0 : due.trim().split(" +").length));
            demandRows(promise, r, "viewAt " + w[1], due);
            demandRows(promise, r, "viewAnew " + w[1], due);
        } else if (w[0].equals("log")) {
            // log KIND,TX,TABLE,KEY ..: the whole log
            demand(promise, r, "records", "" + (w.length - 1));
            for (int i = 1; i < w.length; i++) {
                String[] f = w[i].split(",");
                demand(promise, r, "recordKind " + (i - 1), f[0]);
                demand(promise, r, "recordOf " + (i - 1), f[1]);
                demand(promise, r, "recordAt " + (i - 1) + " no", f.length > 2 ? f[2] : "NULL");
                demand(promise, r, "recordAt " + (i - 1) + " yes", f.length > 3 ? f[3] : "NULL");
            }
        } else {
            int sign = Math.max(text.indexOf('='), text.indexOf('!'));
            demand(promise, r, text.substring(0, sign), text.substring(sign + 1).trim());
        }
    }

    static void run(int promise, String script) {
        seen.add(promise);
        RowForge r = new RowForge();
        for (String text : script.split("[\n;]")) {
            if (!text.isBlank()) {
                try {
                    line(promise, r, text);
                } catch (RuntimeException e) {
                    wrong++;
                    System.out.println("promise " + promise + ": " + text.trim() + ": " + e);
                }
            }
        }
    }

    static void constants() {
        seen.add(0);
        int[] all = {RowForge.NONE, RowForge.LESS, RowForge.SAME, RowForge.MORE, RowForge.RESTRICT, RowForge.CASCADE,
            RowForge.BLANK, RowForge.INNER, RowForge.LEFT, RowForge.FULL, RowForge.SEMI, RowForge.ANTI, RowForge.COUNT,
            RowForge.SUM, RowForge.LEAST, RowForge.GREATEST, RowForge.UNION, RowForge.COMMON, RowForge.WITHOUT,
            RowForge.ACTIVE, RowForge.WAITING, RowForge.COMMITTED, RowForge.ABORTED, RowForge.DONE, RowForge.WAITS,
            RowForge.REFUSED, RowForge.FAILED, RowForge.VICTIM, RowForge.WRITE, RowForge.COMMIT, RowForge.UNDO,
            RowForge.ABORT, RowForge.CHECK};
        int[] due = {-1, 0, 1, 2, 0, 1, 2, 0, 1, 2, 3, 4, 0, 1, 2, 3, 0, 1, 2, 0, 1, 2, 3, 0, 1, 2, 3, 4, 0, 1, 2, 3, 4};
        if (!java.util.Arrays.equals(all, due) || RowForge.NULL != -2147483648) {
            wrong++;
            System.out.println("the constants are not as told");
        }
    }

    public static void main(String[] args) {
        constants();
        tables();
        transactions();
        writes();
        waiting();
        commits();
        questions();
        puts();
        joins();
        results();
        largest();
        plans();
        views();
        logs();
        for (int promise = 1; promise <= 48; promise++) {
            if (!seen.contains(promise)) {
                wrong++;
                System.out.println("promise " + promise + " has no test");
            }
        }
        System.out.println(calls + " calls, " + wrong + " wrong");
        System.exit(wrong == 0 ? 0 : 1);
    }

    static void tables() {
        run(1, "records = 0; flushed = 0; planned = 0; scrap = 0; rowsOf 0 ! IOOBE; state 0 ! IOOBE; run 0 0 ! IOOBE;"
            + "prepare 0 ! IOOBE; viewRows 0 ! IOOBE; recordKind 0 ! IOOBE; at 0 0 ! IOOBE; analyze = 0; table 1 = 0; begin 0 = 0");
        run(2, "table 0 ! IAE; table 5 ! IAE; table -1 ! IAE; table NULL ! IAE; table 1 = 0; table 4 = 1; table 2 = 2; table 3 = 3;"
            + "table 4 = 4; table 1 = 5; table 5 ! IAE; table 1 ! ISE; rowsOf 5 = 0; rowsOf 6 ! IOOBE");
        run(2, "table 2 = 0; begin 0 = 0; table 9 ! IAE; table 2 ! ISE; rowsOf 1 ! IOOBE; abort 0 = 0; table 2 = 1;"
            + "begin 0 = 1; commit 1 = DONE; table 2 = 2");
        run(2, "table 1 = 0; begin 0 = 0; begin 0 = 1; row 0 0 1 = DONE; row 1 0 1 = WAITS; abort 0 = 1; table 1 ! ISE; commit 1 = DONE; table 1 = 1");
        run(3, "table 2 = 0; check 1 0 0 0 ! IOOBE; check -1 0 0 0 ! IOOBE; check 0 2 0 0 ! IOOBE; check 0 -1 0 0 ! IOOBE;"
            + "check 0 2 9 9999 ! IOOBE; check 0 1 3 0 ! IAE; check 0 1 -1 0 ! IAE; check 0 1 0 1001 ! IAE; check 0 1 0 -1001 ! IAE;"
            + "check 0 1 0 NULL ! IAE; check 0 1 LESS 1000 = 1; check 0 1 MORE -1000 = 2; check 0 0 MORE 0 = 3; check 0 1 LESS 5 = 4;"
            + "check 0 1 LESS 5 ! ISE; check 0 1 3 5 ! IAE; check 0 2 3 5 ! IOOBE; table 1 = 1; check 1 0 SAME 3 = 1");
        run(3, "table 2 = 0; table 2 = 1; begin 0 = 0; check 0 1 3 0 ! IAE; check 0 1 0 0 ! ISE; row 0 0 1 1 = DONE; commit 0 = DONE;"
            + "check 0 1 LESS 9 ! ISE; check 1 1 LESS 9 = 1; begin 0 = 1; delete 1 0 1 = DONE; commit 1 = DONE; check 0 1 LESS 0 = 1;"
            + "begin 0 = 2; row 2 0 1 1 = REFUSED; row 2 0 1 0 = REFUSED; row 2 0 1 -1 = DONE; row 2 0 2 NULL = DONE;"
            + "row 2 1 1 9 = REFUSED; row 2 1 1 8 = DONE");
        run(3, "table 2 = 0; check 0 1 SAME 5 = 1; check 0 0 MORE 2 = 2; begin 0 = 0; row 0 0 3 5 = DONE; row 0 0 2 5 = REFUSED;"
            + "row 0 0 4 4 = REFUSED; row 0 0 4 6 = REFUSED; update 0 0 3 1 6 = REFUSED; update 0 0 3 1 NULL = DONE; update 0 0 3 1 5 = DONE; own 0 0 3 1 = 5");
        run(4, "table 2 = 0; table 3 = 1; refer 2 1 0 0 ! IOOBE; refer -1 1 0 0 ! IOOBE; refer 0 2 0 0 ! IOOBE; refer 0 -1 0 0 ! IOOBE;"
            + "refer 0 0 1 0 ! IOOBE; refer 0 1 2 0 ! IOOBE; refer 0 1 -1 0 ! IOOBE; refer 0 0 1 9 ! IOOBE; refer 0 1 1 3 ! IAE;"
            + "refer 0 1 1 -1 ! IAE; refer 0 1 1 BLANK = 0; refer 0 1 0 CASCADE ! ISE; refer 0 1 0 5 ! IAE; refer 1 1 1 CASCADE = 0;"
            + "refer 1 2 0 RESTRICT = 0; refer 1 2 0 RESTRICT ! ISE");
        run(4, "table 2 = 0; table 2 = 1; begin 0 = 0; refer 0 1 1 0 ! ISE; refer 0 1 1 7 ! IAE; row 0 0 1 1 = DONE; commit 0 = DONE;"
            + "refer 0 1 1 0 ! ISE; refer 1 1 0 0 = 0; begin 0 = 1; row 1 1 1 2 = REFUSED; row 1 1 1 1 = DONE; delete 1 0 1 = REFUSED");
        run(4, "table 2 = 0; table 2 = 1; refer 0 1 1 RESTRICT = 0; begin 0 = 0; row 0 0 1 5 = REFUSED; row 0 0 1 NULL = DONE;"
            + "row 0 1 5 9 = DONE; row 0 0 2 5 = DONE; update 0 0 1 1 6 = REFUSED; update 0 0 1 1 5 = DONE");
        run(5, "table 2 = 0; veil 0 0 0 0 0 ! IOOBE; veil 4 0 0 0 0 ! IOOBE; veil 1 1 0 0 0 ! IOOBE; veil 1 0 2 0 0 ! IOOBE;"
            + "veil 1 0 -1 0 0 ! IOOBE; veil 0 0 0 9 0 ! IOOBE; veil 1 0 0 3 0 ! IAE; veil 1 0 0 -1 0 ! IAE; veil 1 0 0 0 1001 ! IAE;"
            + "veil 1 0 0 0 -1001 ! IAE; veil 1 0 0 0 NULL ! IAE; veil 1 0 0 LESS 1000 = 1; veil 3 0 1 MORE -1000 = 2; veil 2 0 1 SAME 0 = 3;"
            + "veil 1 0 1 LESS 1 = 4; veil 1 0 1 LESS 1 = 5; veil 1 0 1 LESS 1 = 6; veil 1 0 1 LESS 1 = 7; veil 1 0 1 LESS 1 = 8;"
            + "veil 1 0 1 LESS 1 = 9; veil 1 0 1 LESS 1 = 10; veil 1 0 1 LESS 1 = 11; veil 1 0 1 LESS 1 = 12; veil 1 0 1 LESS 1 ! ISE;"
            + "veil 1 0 1 3 1 ! IAE; veil 0 0 1 3 1 ! IOOBE");
        run(5, "table 2 = 0; begin 0 = 0; veil 1 0 0 5 0 ! IAE; veil 1 0 0 0 0 ! ISE; rows 0 0 1,5 2,NULL 3,7; commit 0 = DONE; veil 1 0 1 MORE 5 = 1;"
            + "veil 2 0 0 LESS 3 = 2; veil 2 0 1 SAME 5 = 3; scan 0 = 1; query = 0; begin 1 = 1; gives 1 0 : 3,7; begin 2 = 2; gives 2 0 : 1,5;"
            + "begin 3 = 3; gives 3 0 : 1,5 2,NULL 3,7; begin 0 = 4; gives 4 0 : 1,5 2,NULL 3,7; own 1 0 1 1 = 5;"
            + "delete 1 0 1 = REFUSED; update 1 0 2 1 8 = REFUSED; update 1 0 3 1 1 = DONE; gives 1 0 : ; update 1 0 3 1 9 = REFUSED;"
            + "row 1 0 4 0 = DONE; delete 1 0 4 = REFUSED; row 1 0 5 6 = DONE; gives 1 0 : 5,6; delete 1 0 5 = DONE");
    }

    static void transactions() {
        run(6, "begin -1 ! IOOBE; begin 4 ! IOOBE; begin 3 = 0; begin 0 = 1; begin 1 = 2; begin 2 = 3; begin 0 ! ISE; begin 4 ! IOOBE;"
            + "commit 1 = DONE; begin 0 = 4; begin 0 ! ISE; state 4 = ACTIVE; state 5 ! IOOBE; crash 1 = 0; state 4 = ABORTED; begin 0 = 5");
        StringBuilder many = new StringBuilder();
        for (int i = 0; i < 60; i++) {
            many.append("begin 0 = ").append(i).append("; commit ").append(i).append(" = DONE;");
        }
        run(6, many + "begin 0 ! ISE; begin 7 ! IOOBE; state 59 = COMMITTED; state 60 ! IOOBE");
        run(6, "table 1 = 0; begin 0 = 0; begin 0 = 1; begin 0 = 2; begin 0 = 3; row 0 0 1 = DONE; row 1 0 1 = WAITS; begin 0 ! ISE");
        run(6, "table 2 = 0; begin 0 = 0; row 0 0 1 5 = DONE; begin 0 = 1; own 1 0 1 1 = NULL; commit 0 = DONE; own 1 0 1 1 = NULL; begin 0 = 2; own 2 0 1 1 = 5");
        run(7, "value 1001 ! IAE; value -1001 ! IAE; value 1000 = 1; value -1000 = 2; value NULL = 3; value MAX ! IAE; value 0 = 4;"
            + "value 0 ! ISE; value 1001 ! IAE; table 4 = 0; begin 0 = 0; insert 0 0 = DONE; own 0 0 1000 1 = -1000; own 0 0 1000 2 = NULL;"
            + "own 0 0 1000 3 = 0; value 5 = 1");
        run(7, "table 2 = 0; table 1 = 1; begin 0 = 0; value 3 = 1; value 4 = 2; insert 0 1 ! ISE; crash 0 = 0; begin 0 = 1; insert 1 0 = DONE; own 1 0 3 1 = 4; value 1 = 1");
    }

    static void writes() {
        run(8, "table 2 = 0; insert 0 0 ! IOOBE; begin 0 = 0; insert 0 1 ! IOOBE; insert 1 0 ! IOOBE; insert -1 0 ! IOOBE; insert 0 -1 ! IOOBE;"
            + "insert 0 0 ! ISE; value 1 = 1; insert 0 0 ! ISE; insert 0 7 ! IOOBE; value 2 = 2; insert 0 0 = DONE; insert 0 0 ! ISE;"
            + "own 0 0 1 1 = 2; value 1 = 1; value 1 = 2; value 1 = 3; insert 0 0 ! ISE; value 8 = 4; records = 1");
        run(8, "table 1 = 0; begin 0 = 0; row 0 0 1 = DONE; commit 0 = DONE; value 2 = 1; insert 0 0 ! ISE; insert 0 5 ! IOOBE; begin 0 = 1; insert 1 0 = DONE; own 1 0 2 0 = 2");
        run(8, "table 2 = 0; begin 0 = 0; row 0 0 NULL 1 = REFUSED; row 0 0 1 1 = DONE; row 0 0 1 2 = REFUSED; own 0 0 1 1 = 1;"
            + "rows 0 0 2,1 3,1 4,1 5,1 6,1 7,1 8,1; row 0 0 9 1 = REFUSED; outcome 0 = REFUSED; delete 0 0 3 = DONE; row 0 0 9 1 = DONE; own 0 0 9 0 = 9;"
            + "row 0 0 3 0 = REFUSED; state 0 = ACTIVE; records = 10; rowsOf 0 = 0; commit 0 = DONE; rowsOf 0 = 8");
        run(8, "table 3 = 0; table 1 = 1; refer 0 1 0 RESTRICT = 0; refer 0 2 1 RESTRICT = 0; begin 0 = 0; row 0 0 1 1 NULL = REFUSED;"
            + "hasRead 0 0 1 = 1; row 0 0 2 NULL 7 = REFUSED; hasRead 0 0 2 = 1; hasRead 0 1 7 = 1; hasRead 0 1 2 = 0; row 0 0 NULL 9 8 = REFUSED;"
            + "hasRead 0 0 9 = 1; hasRead 0 1 8 = 1; hasRead 0 0 NULL = 0; row 0 0 1 NULL NULL = DONE; row 0 0 2 1 NULL = DONE; row 0 1 7 = DONE; row 0 0 3 2 7 = DONE");
        run(8, "table 1 = 0; veil 1 0 0 MORE 5 = 1; begin 1 = 0; row 0 0 1 = DONE; row 0 0 1 = REFUSED; own 0 0 1 0 = 1; delete 0 0 1 = REFUSED");
        run(9, "table 3 = 0; table 1 = 1; update 0 0 0 1 0 ! IOOBE; begin 0 = 0; update 0 2 0 1 0 ! IOOBE; update 0 -1 0 1 0 ! IOOBE; update 1 0 0 1 0 ! IOOBE;"
            + "update 0 0 0 3 0 ! IOOBE; update 0 0 0 -1 0 ! IOOBE; update 0 0 0 0 0 ! IOOBE; update 0 1 0 0 0 ! IOOBE; update 0 0 0 0 5000 ! IOOBE;"
            + "update 0 0 0 1 1001 ! IAE; update 0 0 0 1 -1001 ! IAE; hasRead 0 0 0 = 0; outcome 0 = NONE; row 0 0 5 6 7 = DONE; update 0 0 5 1 1000 = DONE; own 0 0 5 1 = 1000;"
            + "update 0 0 5 2 NULL = DONE; own 0 0 5 2 = NULL; own 0 0 5 1 = 1000; own 0 0 5 0 = 5; update 0 0 6 1 1 = REFUSED; hasRead 0 0 6 = 1;"
            + "update 0 0 9999 1 1 = REFUSED; hasRead 0 0 9999 = 1; update 0 0 NULL 1 1 = REFUSED; hasRead 0 0 NULL = 1; update 0 0 5 1 1000 = DONE; records = 4;"
            + "commit 0 = DONE; update 0 0 5 1 1001 ! IAE; update 0 0 5 1 1 ! ISE; update 0 0 5 0 1 ! IOOBE; begin 0 = 1; begin 0 = 2; update 1 0 5 1 1 = DONE;"
            + "update 2 0 5 1 2 = WAITS; update 2 0 5 1 2 ! ISE; update 2 0 5 1 2000 ! IAE");
        run(9, "table 2 = 0; table 1 = 1; check 0 1 LESS 9 = 1; check 0 1 MORE 2 = 2; refer 0 1 1 CASCADE = 0; begin 0 = 0; row 0 1 5 = DONE; row 0 1 1 = DONE; row 0 1 9 = DONE;"
            + "row 0 0 1 5 = DONE; update 0 0 1 1 9 = REFUSED; update 0 0 1 1 1 = REFUSED; update 0 0 1 1 6 = REFUSED; hasRead 0 1 6 = 1; hasRead 0 0 6 = 0; own 0 0 1 1 = 5;"
            + "update 0 0 1 1 NULL = DONE; own 0 0 1 1 = NULL; outcome 0 = DONE; update 0 0 4 1 3 = REFUSED; hasRead 0 1 3 = 1; records = 5");
        run(9, "table 2 = 0; refer 0 1 0 RESTRICT = 0; begin 0 = 0; row 0 0 1 NULL = DONE; update 0 0 1 1 1 = DONE; own 0 0 1 1 = 1; delete 0 0 1 = DONE; own 0 0 1 0 = NULL");
        run(10, "table 2 = 0; delete 0 0 0 ! IOOBE; begin 0 = 0; delete 0 1 0 ! IOOBE; delete 0 -1 0 ! IOOBE; delete 1 0 0 ! IOOBE; delete 0 0 4 = REFUSED; hasRead 0 0 4 = 1;"
            + "hasRead 0 0 5 = 0; delete 0 0 NULL = REFUSED; delete 0 0 MAX = REFUSED; hasRead 0 0 MAX = 1; row 0 0 4 4 = DONE; delete 0 0 4 = DONE; own 0 0 4 0 = NULL; delete 0 0 4 = REFUSED;"
            + "outcome 0 = REFUSED; log WRITE,0,0,4 WRITE,0,0,4; row 0 0 4 1 = DONE; abort 0 = 3; delete 0 0 4 ! ISE; delete 0 1 4 ! IOOBE");
        // 0 people; 1 refers by RESTRICT, 2 by CASCADE, 3 by BLANK to 0; 4 refers by CASCADE to 2
        String five = "table 1 = 0; table 2 = 1; table 2 = 2; table 3 = 3; table 2 = 4; refer 1 1 0 RESTRICT = 0; refer 2 1 0 CASCADE = 0;"
            + "refer 3 1 0 BLANK = 0; refer 3 2 2 BLANK = 0; refer 4 1 2 CASCADE = 0; begin 0 = 0; rows 0 0 1 2 3; rows 0 1 1,1 2,NULL;"
            + "rows 0 2 9,2 5,2 6,3; rows 0 3 4,2,6 3,3,5 2,2,9 1,NULL,NULL; rows 0 4 8,5 7,6 2,9 1,NULL; commit 0 = DONE;";
        run(10, five + "begin 0 = 1; delete 1 0 1 = REFUSED; own 1 0 1 0 = 1; records = 17; hasRead 1 0 1 = 1; hasRead 1 0 2 = 0; hasRead 1 1 99 = 1; hasRead 1 2 99 = 1; hasRead 1 3 99 = 1; hasRead 1 4 99 = 0;"
            + "delete 1 1 1 = DONE; hasRead 1 4 99 = 0; delete 1 0 1 = DONE; outcome 1 = DONE; own 1 0 1 0 = NULL; own 1 1 2 0 = 2; records = 19");
        run(10, five + "begin 0 = 1; delete 1 0 2 = DONE; records = 25; recordAt 17 no = 0; recordAt 17 yes = 2; recordAt 18 no = 2; recordAt 18 yes = 5; recordAt 19 yes = 9;"
            + "recordAt 20 no = 3; recordAt 20 yes = 2; recordAt 21 yes = 3; recordAt 22 yes = 4; recordAt 23 no = 4; recordAt 23 yes = 2; recordAt 24 yes = 8;"
            + "own 1 2 5 0 = NULL; own 1 2 9 0 = NULL; own 1 2 6 1 = 3; own 1 3 4 1 = NULL; own 1 3 4 2 = 6; own 1 3 3 1 = 3; own 1 3 3 2 = NULL; own 1 3 2 1 = NULL; own 1 3 2 2 = NULL;"
            + "own 1 4 8 0 = NULL; own 1 4 7 1 = 6; own 1 4 2 0 = NULL; own 1 4 1 0 = 1; hasRead 1 4 77 = 1; hasRead 1 2 77 = 1; hasRead 1 0 77 = 0; committed 3 4 1 = 2;"
            + "commit 1 = DONE; committed 3 4 1 = NULL; committed 4 8 0 = NULL; rowsOf 4 = 2; rowsOf 2 = 1; rowsOf 0 = 2; rowsOf 3 = 4");
        run(10, "table 2 = 0; table 2 = 1; table 2 = 2; refer 1 1 0 CASCADE = 0; refer 2 1 1 RESTRICT = 0; begin 0 = 0; row 0 0 1 1 = DONE; row 0 1 2 1 = DONE; row 0 2 3 2 = DONE;"
            + "commit 0 = DONE; begin 0 = 1; delete 1 0 1 = REFUSED; hasRead 1 2 50 = 1; hasRead 1 1 50 = 1; own 1 1 2 1 = 1; records = 4; update 1 2 3 1 NULL = DONE; delete 1 0 1 = DONE");
        run(10, "table 3 = 0; refer 0 1 0 CASCADE = 0; refer 0 2 0 RESTRICT = 0; begin 0 = 0; row 0 0 1 NULL NULL = DONE; row 0 0 2 1 1 = DONE; row 0 0 3 2 NULL = DONE; row 0 0 4 3 2 = DONE; row 0 0 5 NULL NULL = DONE;"
            + "update 0 0 1 2 4 = DONE; delete 0 0 2 = REFUSED; delete 0 0 1 = DONE; own 0 0 2 0 = NULL; own 0 0 3 0 = NULL; own 0 0 4 0 = NULL; own 0 0 5 0 = 5");
        run(10, "table 2 = 0; table 2 = 1; refer 1 1 0 CASCADE = 0; veil 1 1 1 MORE 500 = 1; begin 0 = 0; row 0 0 1 1 = DONE; row 0 1 1 1 = DONE; commit 0 = DONE;"
            + "begin 1 = 1; delete 1 1 1 = REFUSED; hasRead 1 0 5 = 0; delete 1 0 1 = DONE; own 1 1 1 0 = NULL");
        run(10, "table 2 = 0; refer 0 1 0 BLANK = 0; check 0 1 LESS 5 = 1; begin 0 = 0; row 0 0 1 NULL = DONE; row 0 0 2 1 = DONE; update 0 0 1 1 1 = DONE; delete 0 0 1 = DONE; own 0 0 2 1 = NULL; own 0 0 1 1 = NULL; log WRITE,0,0,1 WRITE,0,0,2 WRITE,0,0,1 WRITE,0,0,1 WRITE,0,0,2");
    }

    static void waiting() {
        String two = "table 2 = 0; begin 0 = 0; rows 0 0 1,1 2,2 3,3; commit 0 = DONE; begin 0 = 1; begin 0 = 2; begin 0 = 3;";
        run(9, two + "update 1 0 1 1 5 = DONE; update 2 0 1 1 6 = WAITS; state 2 = WAITING; waitsFor 2 = 1; outcome 2 = WAITS; own 2 0 1 1 = 1; own 3 0 1 1 = 1; records = 5;"
            + "hasRead 2 0 1 = 1; delete 3 0 1 = WAITS; waitsFor 3 = 1; commit 2 ! ISE; delete 2 0 2 ! ISE; insert 2 0 ! ISE; abort 1 = 1; state 2 = ACTIVE; waitsFor 2 = NONE; outcome 2 = DONE; own 2 0 1 1 = 6; own 3 0 1 1 = 1;"
            + "state 3 = WAITING; waitsFor 3 = 2; outcome 3 = WAITS; commit 2 = DONE; state 3 = ABORTED; outcome 3 = FAILED; waitsFor 3 = NONE; own 3 0 1 1 = NULL; committed 0 1 1 = 6;"
            + "log WRITE,0,0,1 WRITE,0,0,2 WRITE,0,0,3 COMMIT,0 WRITE,1,0,1 UNDO,1,0,1 ABORT,1 WRITE,2,0,1 COMMIT,2 ABORT,3");
        run(9, two + "update 1 0 1 1 5 = DONE; update 2 0 2 1 5 = DONE; update 1 0 2 1 6 = WAITS; update 2 0 1 1 6 = VICTIM; state 2 = ABORTED; outcome 2 = VICTIM; state 1 = ACTIVE; outcome 1 = DONE; own 1 0 2 1 = 6;"
            + "log WRITE,0,0,1 WRITE,0,0,2 WRITE,0,0,3 COMMIT,0 WRITE,1,0,1 WRITE,2,0,2 UNDO,2,0,2 ABORT,2 WRITE,1,0,2; commit 1 = DONE; committed 0 1 1 = 5; committed 0 2 1 = 6; outcome 1 = DONE");
        run(10, two + "update 1 0 1 1 5 = DONE; update 2 0 2 1 5 = DONE; update 3 0 3 1 5 = DONE; update 1 0 2 1 0 = WAITS; update 2 0 3 1 0 = WAITS; delete 3 0 1 = VICTIM; state 2 = ACTIVE; state 1 = WAITING; waitsFor 1 = 2; own 2 0 3 1 = 0;"
            + "abort 2 = 2; state 1 = ACTIVE; own 1 0 2 1 = 0");
        run(8, two + "row 1 0 7 0 = DONE; row 2 0 7 1 = WAITS; row 3 0 7 2 = WAITS; commit 1 = DONE; outcome 2 = FAILED; outcome 3 = FAILED; state 3 = ABORTED; committed 0 7 1 = 0");
        run(8, two + "row 1 0 7 0 = DONE; row 2 0 7 1 = WAITS; row 3 0 7 2 = WAITS; abort 1 = 1; outcome 2 = DONE; waitsFor 3 = 2; abort 2 = 1; outcome 3 = DONE; own 3 0 7 1 = 2; commit 3 = DONE; committed 0 7 1 = 2");
        run(8, two + "row 1 0 7 0 = DONE; row 2 0 7 1 = WAITS; abort 2 = 0; state 2 = ABORTED; waitsFor 2 = NONE; outcome 2 = WAITS; commit 1 = DONE; state 2 = ABORTED; committed 0 7 1 = 0");
        run(8, two + "commit 1 = DONE; update 2 0 1 1 9 = DONE; commit 2 = DONE; row 3 0 1 5 = REFUSED; delete 3 0 1 = FAILED; state 3 = ABORTED; outcome 3 = FAILED; records = 8; recordKind 7 = ABORT; recordOf 7 = 3");
        run(8, two + "row 1 0 5 5 = DONE; commit 1 = DONE; row 2 0 5 4 = FAILED; state 2 = ABORTED; delete 3 0 5 = REFUSED; state 3 = ACTIVE");
        // the first row by tables, then keys, tells for whom to wait; a table above comes later, whatever its key
        String chain = "table 1 = 0; table 2 = 1; table 2 = 2; refer 1 1 0 CASCADE = 0; refer 2 1 0 BLANK = 0; begin 0 = 0; rows 0 0 5; rows 0 1 9,5 2,5; rows 0 2 1,5; commit 0 = DONE; begin 0 = 1; begin 0 = 2; begin 0 = 3;";
        run(10, chain + "update 1 1 9 1 NULL = DONE; update 2 1 2 1 NULL = DONE; delete 3 0 5 = WAITS; waitsFor 3 = 2; hasRead 3 1 77 = 1; hasRead 3 2 77 = 1; hasRead 3 0 5 = 1; hasRead 3 0 6 = 0; commit 1 = DONE; waitsFor 3 = 2; commit 2 = DONE; outcome 3 = FAILED");
        run(10, chain + "update 1 2 1 1 NULL = DONE; update 2 1 9 1 NULL = DONE; delete 3 0 5 = WAITS; waitsFor 3 = 2; abort 2 = 1; waitsFor 3 = 1; outcome 3 = WAITS; abort 1 = 1; outcome 3 = DONE; own 3 2 1 1 = NULL; own 3 1 9 0 = NULL; records = 15; commit 3 = DONE; rowsOf 1 = 0");
        run(9, two + "update 1 0 1 1 1 = DONE; update 2 0 1 1 1 = WAITS; update 3 0 2 1 7 = DONE; update 3 0 1 1 7 = WAITS; waitsFor 3 = 1; commit 1 = DONE; outcome 2 = FAILED; outcome 3 = FAILED; log WRITE,0,0,1 WRITE,0,0,2 WRITE,0,0,3 COMMIT,0 WRITE,1,0,1 WRITE,3,0,2 COMMIT,1 ABORT,2 UNDO,3,0,2 ABORT,3");
        // a write that is refused is refused, whoever wrote the row
        run(9, two + "update 1 0 1 1 5 = DONE; update 2 0 1 1 6 = WAITS; abort 1 = 1; row 2 0 2 2 = REFUSED; outcome 2 = REFUSED; commit 2 = DONE; outcome 2 = REFUSED; committed 0 1 1 = 6");
        // the transaction 0 as any other
        run(10, "table 2 = 0; begin 0 = 0; begin 0 = 1; row 0 0 1 1 = DONE; row 1 0 2 2 = DONE; row 0 0 2 3 = WAITS; row 1 0 1 3 = VICTIM; state 1 = ABORTED; outcome 0 = DONE; own 0 0 2 1 = 3; begin 0 = 2; row 2 0 2 2 = WAITS; waitsFor 2 = 0; crash 5 = 2; state 0 = ABORTED; state 2 = ABORTED; waitsFor 2 = NONE");
        // a row that is inserted and deleted again is still written
        run(10, two + "row 1 0 7 7 = DONE; delete 1 0 7 = DONE; row 2 0 7 1 = WAITS; commit 1 = DONE; outcome 2 = FAILED; row 3 0 7 0 = FAILED");
    }

    static void commits() {
        String base = "table 2 = 0; table 2 = 1; begin 0 = 0; rows 0 0 1,1 2,2; rows 0 1 1,1; commit 0 = DONE; scan 0 = 1; query = 0; scan 0 = 1; filter 0 SAME 1 no = 1; query = 1; begin 0 = 1; begin 0 = 2;";
        run(11, "commit 0 ! IOOBE; begin 0 = 0; commit -1 ! IOOBE; commit 0 = DONE; state 0 = COMMITTED; commit 0 ! ISE; abort 0 ! ISE; log COMMIT,0; flushed = 1; outcome 0 = NONE");
        run(11, base + "run 1 0 = 2; update 2 0 2 1 2 = DONE; commit 2 = DONE; records = 6; update 1 1 1 1 8 = DONE; commit 1 = FAILED; state 1 = ABORTED; outcome 1 = DONE; committed 1 1 1 = 1; commit 1 ! ISE;"
            + "log WRITE,0,0,1 WRITE,0,0,2 WRITE,0,1,1 COMMIT,0 WRITE,2,0,2 COMMIT,2 WRITE,1,1,1 UNDO,1,1,1 ABORT,1; flushed = 6");
        run(11, base + "run 1 1 = 1; update 2 0 2 1 3 = DONE; commit 2 = DONE; commit 1 = DONE");
        run(11, base + "run 1 1 = 1; update 2 0 1 1 3 = DONE; commit 2 = DONE; commit 1 = FAILED");
        run(11, base + "run 1 0 = 2; row 2 1 9 9 = DONE; commit 2 = DONE; commit 1 = DONE");
        run(11, base + "run 1 0 = 2; row 2 0 9 9 = DONE; delete 2 0 9 = DONE; commit 2 = DONE; commit 1 = FAILED");
        run(11, base + "run 1 0 = 2; update 2 0 1 1 9 = DONE; abort 2 = 1; commit 1 = DONE");
        run(11, base + "row 2 0 9 9 = DONE; commit 2 = DONE; run 1 0 = 2; commit 1 = FAILED");
        run(11, base + "update 1 0 9 1 1 = REFUSED; row 2 0 9 9 = DONE; commit 2 = DONE; commit 1 = FAILED");
        run(11, base + "update 1 0 1 1 4 = DONE; update 2 0 2 1 5 = DONE; commit 1 = DONE; commit 2 = DONE; committed 0 1 1 = 4; committed 0 2 1 = 5; committedByLog 0 1 1 = 4; begin 0 = 3; run 3 0 = 2; commit 3 = DONE");
        run(11, base + "run 1 0 = 2; update 1 0 1 1 7 = DONE; commit 1 = DONE; run 2 1 = 1; at 0 1 = 1; commit 2 = FAILED");
        run(11, "table 1 = 0; begin 0 = 0; rows 0 0 1 2 3 4 5 6; commit 0 = DONE; begin 0 = 1; begin 0 = 2; begin 0 = 3; row 1 0 7 = DONE; row 2 0 8 = DONE; row 2 0 9 = DONE; row 3 0 10 = DONE; delete 3 0 1 = DONE;"
            + "commit 1 = DONE; rowsOf 0 = 7; commit 2 = FAILED; rowsOf 0 = 7; committed 0 8 0 = NULL; commit 3 = DONE; rowsOf 0 = 7; committed 0 1 0 = NULL; begin 0 = 4; begin 0 = 5; row 4 0 20 = DONE; row 5 0 21 = DONE; commit 5 = DONE; commit 4 = FAILED; committed 0 21 0 = 21; committed 0 20 0 = NULL");
        run(11, "table 2 = 0; table 2 = 1; refer 1 1 0 RESTRICT = 0; begin 0 = 0; row 0 0 1 1 = DONE; commit 0 = DONE; begin 0 = 1; begin 0 = 2; row 1 1 5 1 = DONE; delete 2 0 1 = DONE; commit 2 = DONE; commit 1 = FAILED; rowsOf 1 = 0");
        run(11, "table 2 = 0; table 2 = 1; refer 1 1 0 RESTRICT = 0; begin 0 = 0; row 0 0 1 1 = DONE; commit 0 = DONE; begin 0 = 1; begin 0 = 2; row 1 1 5 1 = DONE; delete 2 0 1 = DONE; commit 1 = DONE; commit 2 = FAILED; rowsOf 0 = 1; committed 1 5 1 = 1");
        run(12, "abort 0 ! IOOBE; table 2 = 0; begin 0 = 0; abort 1 ! IOOBE; abort -1 ! IOOBE; abort 0 = 0; abort 0 ! ISE; begin 0 = 1; rows 1 0 1,1 2,2; update 1 0 1 1 5 = DONE; abort 1 = 3; state 1 = ABORTED; own 1 0 1 1 = NULL; rowsOf 0 = 0;"
            + "log ABORT,0 WRITE,1,0,1 WRITE,1,0,2 WRITE,1,0,1 UNDO,1,0,1 UNDO,1,0,2 UNDO,1,0,1 ABORT,1; flushed = 0; outcome 1 = DONE; begin 0 = 2; row 2 0 1 1 = DONE");
        run(12, "table 2 = 0; begin 0 = 0; rows 0 0 1,1 2,2; commit 0 = DONE; abort 0 ! ISE; begin 0 = 1; begin 0 = 2; update 1 0 1 1 5 = DONE; update 2 0 2 1 5 = DONE; update 2 0 1 1 5 = WAITS; abort 2 = 1; state 2 = ABORTED; abort 1 = 1; committed 0 1 1 = 1");
        run(12, "table 2 = 0; begin 0 = 0; rows 0 0 1,1 2,2; commit 0 = DONE; begin 0 = 1; begin 0 = 2; begin 0 = 3; update 3 0 1 1 5 = DONE; update 1 0 2 1 5 = DONE; update 2 0 2 1 6 = WAITS; update 1 0 1 1 7 = WAITS; commit 3 = DONE; state 1 = ABORTED; outcome 1 = FAILED; state 2 = ACTIVE; outcome 2 = DONE; own 2 0 2 1 = 6; commit 2 = DONE");
        run(13, "state 0 ! IOOBE; begin 0 = 0; state 0 = ACTIVE; state -1 ! IOOBE; state 1 ! IOOBE; commit 0 = DONE; state 0 = COMMITTED; begin 0 = 1; abort 1 = 0; state 1 = ABORTED; table 1 = 0; begin 0 = 2; begin 0 = 3; row 2 0 1 = DONE; row 3 0 1 = WAITS; state 3 = WAITING; crash 3 = 1; state 3 = ABORTED; state 2 = ABORTED; state 0 = COMMITTED");
        run(14, "outcome 0 ! IOOBE; table 1 = 0; begin 0 = 0; outcome 0 = NONE; outcome -1 ! IOOBE; outcome 1 ! IOOBE; row 0 0 1 = DONE; outcome 0 = DONE; row 0 0 1 = REFUSED; outcome 0 = REFUSED; insert 0 0 ! ISE; outcome 0 = REFUSED; commit 0 = DONE; outcome 0 = REFUSED;"
            + "begin 0 = 1; begin 0 = 2; delete 1 0 1 = DONE; delete 2 0 1 = WAITS; outcome 2 = WAITS; crash 2 = 0; outcome 2 = WAITS; outcome 1 = DONE; begin 0 = 3; scan 0 = 1; query = 0; run 3 0 = 1; outcome 3 = NONE; commit 3 = DONE; outcome 3 = NONE");
        run(15, "waitsFor 0 ! IOOBE; table 1 = 0; begin 0 = 0; waitsFor 0 = NONE; waitsFor 1 ! IOOBE; waitsFor -1 ! IOOBE; begin 0 = 1; begin 0 = 2; row 1 0 5 = DONE; row 0 0 5 = WAITS; row 2 0 5 = WAITS; waitsFor 0 = 1; waitsFor 2 = 1; waitsFor 1 = NONE; abort 1 = 1; waitsFor 0 = NONE; waitsFor 2 = 0; crash 3 = 0; waitsFor 2 = NONE");
    }

    static void questions() {
        run(16, "hasRead 0 0 0 ! IOOBE; table 2 = 0; table 2 = 1; hasRead 0 0 0 ! IOOBE; begin 0 = 0; hasRead 0 2 0 ! IOOBE; hasRead 0 -1 0 ! IOOBE; hasRead 1 0 0 ! IOOBE; hasRead -1 0 0 ! IOOBE; hasRead 0 0 0 = 0; hasRead 0 0 NULL = 0;"
            + "row 0 0 3 3 = DONE; hasRead 0 0 3 = 1; hasRead 0 1 3 = 0; hasRead 0 0 4 = 0; scan 0 = 1; query = 0; scan 0 = 1; filter 0 SAME 7 no = 1; query = 1; scan 0 = 1; filter 0 SAME NULL no = 1; query = 2;"
            + "scan 1 = 1; filter 0 SAME 8 yes = 1; query = 3; run 0 1 = 0; hasRead 0 0 7 = 1; hasRead 0 0 8 = 0; atByLoops 0 0 0 0 = 3; hasRead 0 0 8 = 0; run 0 2 = 0; hasRead 0 0 NULL = 1; hasRead 0 0 8 = 0; run 0 0 = 1; hasRead 0 0 8 = 1; hasRead 0 0 MAX = 1;"
            + "hasRead 0 1 1 = 0; run 0 3 = 0; hasRead 0 1 1 = 1; commit 0 = DONE; hasRead 0 1 1 = 1; begin 0 = 1; hasRead 1 0 3 = 0; own 1 0 3 1 = 3; committed 0 3 1 = 3; hasRead 1 0 3 = 0; run 1 1 = 0; abort 1 = 0; hasRead 1 0 7 = 1");
        String t = "table 2 = 0; table 2 = 1; begin 0 = 0; row 0 0 1 0 = DONE; ";
        // what makes a query read a key alone
        run(16, t + "scan 0 = 1; filter 0 SAME 5 no = 1; filter 0 SAME 6 no = 1; query = 0; run 0 0 = 0; hasRead 0 0 5 = 1; hasRead 0 0 6 = 0");
        run(16, t + "scan 0 = 1; filter 1 LESS 5 no = 1; filterColumns 0 SAME 1 yes = 1; filter 0 SAME 5 yes = 1; filter 0 SAME 6 no = 1; query = 0; run 0 0 = 0; hasRead 0 0 6 = 1; hasRead 0 0 5 = 0");
        run(16, t + "scan 0 = 1; filter 0 LESS 5 no = 1; query = 0; run 0 0 = 1; hasRead 0 0 9 = 1");
        run(16, t + "scan 0 = 1; filter 0 MORE 5 no = 1; query = 0; run 0 0 = 0; hasRead 0 0 9 = 1");
        run(16, t + "scan 0 = 1; filter 1 SAME 5 no = 1; query = 0; run 0 0 = 0; hasRead 0 0 9 = 1");
        run(16, t + "scan 0 = 1; keep 3 = 1; filter 0 SAME 5 no = 1; query = 0; run 0 0 = 0; hasRead 0 0 9 = 1");
        run(16, t + "scan 0 = 1; ratio 1 0 0 = 1; filter 0 SAME 5 no = 1; query = 0; run 0 0 = 0; hasRead 0 0 9 = 1");
        run(16, t + "scan 0 = 1; filterColumns 0 SAME 0 no = 1; query = 0; run 0 0 = 1; hasRead 0 0 9 = 1");
        run(16, t + "scan 0 = 1; scan 1 = 2; filter 0 SAME 5 no = 2; join INNER 0 0 = 1; filter 0 SAME 4 no = 1; query = 0; run 0 0 = 0; hasRead 0 0 9 = 1; hasRead 0 1 9 = 0; hasRead 0 1 5 = 1; hasRead 0 1 4 = 0");
        run(16, t + "scan 0 = 1; group 0 COUNT 0 = 1; filter 0 SAME 4 no = 1; query = 0; run 0 0 = 0; hasRead 0 0 9 = 1");
        // a query that fails reads nothing
        run(16, t + "scan 0 = 1; scan 1 = 2; join LEFT 0 0 = 1; ratio 0 1 0 = 1; query = 0; run 0 0 ! AE; hasRead 0 0 9 = 0; hasRead 0 1 9 = 0; update 0 0 1 1 2 = DONE; run 0 0 = 1; hasRead 0 1 9 = 1");
        run(17, "own 0 0 0 0 ! IOOBE; table 2 = 0; own 0 0 0 0 ! IOOBE; begin 0 = 0; own 0 1 0 0 ! IOOBE; own 0 0 0 2 ! IOOBE; own 0 0 0 -1 ! IOOBE; own 1 0 0 0 ! IOOBE; own -1 0 0 0 ! IOOBE; own 0 0 5 0 = NULL; own 0 0 NULL 0 = NULL; own 0 0 MAX 0 = NULL;"
            + "row 0 0 5 NULL = DONE; own 0 0 5 0 = 5; own 0 0 5 1 = NULL; own 0 0 6 0 = NULL; hasRead 0 0 6 = 0; begin 0 = 1; own 1 0 5 0 = NULL; commit 0 = DONE; own 0 0 5 0 = NULL; own 0 0 5 2 ! IOOBE; own 1 0 5 0 = NULL; begin 0 = 2; own 2 0 5 0 = 5; row 1 0 5 5 = FAILED; own 1 0 5 0 = NULL; abort 2 = 0; own 2 0 5 0 = NULL");
        run(17, "table 2 = 0; begin 0 = 0; row 0 0 5 5 = DONE; begin 0 = 1; row 1 0 6 6 = DONE; row 1 0 5 5 = WAITS; own 1 0 6 1 = 6; own 1 0 5 1 = NULL; crash 2 = 2; own 1 0 6 1 = NULL");
        run(18, "committed 0 0 0 ! IOOBE; table 2 = 0; committed 0 0 0 = NULL; committed 1 0 0 ! IOOBE; committed -1 0 0 ! IOOBE; committed 0 0 2 ! IOOBE; committed 0 0 -1 ! IOOBE; committed 0 NULL 0 = NULL; committed 0 MAX 1 = NULL; begin 0 = 0; row 0 0 -1000 1000 = DONE;"
            + "committed 0 -1000 0 = NULL; commit 0 = DONE; committed 0 -1000 0 = -1000; committed 0 -1000 1 = 1000; committed 0 NULL 0 = NULL; begin 0 = 1; update 1 0 -1000 1 NULL = DONE; committed 0 -1000 1 = 1000; commit 1 = DONE; committed 0 -1000 1 = NULL; committed 0 -1000 0 = -1000");
        run(19, "committedByLog 0 0 0 ! IOOBE; table 2 = 0; committedByLog 0 0 0 = NULL; committedByLog 1 0 0 ! IOOBE; committedByLog -1 0 0 ! IOOBE; committedByLog 0 0 2 ! IOOBE; committedByLog 0 0 -1 ! IOOBE; committedByLog 0 NULL 0 = NULL; committedByLog 0 MAX 0 = NULL;"
            + "table 2 = 1; begin 0 = 0; row 0 0 1 5 = DONE; row 0 1 1 9 = DONE; row 0 0 2 NULL = DONE; committedByLog 0 1 1 = NULL; commit 0 = DONE; committedByLog 0 1 0 = 1; committedByLog 0 1 1 = 5; committedByLog 1 1 1 = 9; committedByLog 0 2 0 = 2; committedByLog 0 2 1 = NULL;"
            + "begin 0 = 1; begin 0 = 2; update 1 0 1 1 6 = DONE; update 1 0 1 1 7 = DONE; delete 1 0 2 = DONE; committedByLog 0 1 1 = 5; committedByLog 0 2 0 = 2; commit 1 = DONE; committedByLog 0 1 1 = 7; committedByLog 0 2 0 = NULL; row 2 1 4 4 = DONE; abort 2 = 1; committedByLog 1 4 0 = NULL;"
            + "begin 0 = 3; update 3 0 1 1 8 = DONE; checkpoint = 13; crash 13 = 1; committedByLog 0 1 1 = 7; begin 0 = 4; update 4 0 1 1 3 = DONE; commit 4 = DONE; committedByLog 0 1 1 = 3; crash 17 = 0; committedByLog 0 1 1 = 3; committed 0 1 1 = 3");
        run(20, "rowsOf 0 ! IOOBE; table 1 = 0; table 1 = 1; rowsOf -1 ! IOOBE; rowsOf 2 ! IOOBE; rowsOf 1 = 0; begin 0 = 0; rows 0 1 5 6 7; rowsOf 1 = 0; commit 0 = DONE; rowsOf 1 = 3; rowsOf 0 = 0; begin 0 = 1; delete 1 1 6 = DONE; rowsOf 1 = 3; commit 1 = DONE; rowsOf 1 = 2");
    }

    static void puts() {
        run(21, "scan 0 ! IOOBE; table 1 = 0; table 2 = 1; scan -1 ! IOOBE; scan 2 ! IOOBE; scan 0 = 1; scan 1 = 2; scan 0 = 3; scan 0 ! ISE; scan 2 ! IOOBE; join SEMI 0 0 = 2; scan 0 ! ISE; scrap = 2; scan 0 = 1; query = 0; scan 0 = 1; scan 0 = 2; scan 0 = 3");
        String eleven = "keep 1 = 1; keep 1 = 1; keep 1 = 1; keep 1 = 1; keep 1 = 1; keep 1 = 1; keep 1 = 1; keep 1 = 1; keep 1 = 1; keep 1 = 1; ";
        run(21, "table 1 = 0; scan 0 = 1; " + eleven + "scan 0 = 2; scan 0 ! ISE; scan 7 ! IOOBE; keep 1 ! ISE; join SEMI 0 0 ! ISE; combine UNION ! ISE; filter 0 0 0 no ! ISE; filterColumns 0 0 0 no ! ISE; ratio 0 0 0 ! ISE; group 0 COUNT 0 ! ISE; group 0 9 5 ! ISE; query ! ISE; scrap = 2");
        run(21, "table 1 = 0; scan 0 = 1; " + eleven + "keep 1 = 1; filter 0 0 0 no ! ISE; filter 5 0 0 no ! ISE; filterColumns 5 0 0 no ! ISE; ratio 5 0 0 ! ISE; keep 0 ! ISE; group 5 0 0 ! ISE; scan 0 ! ISE; query = 0");
        run(22, "filter 0 0 0 no ! ISE; filter 9 9 9 no ! ISE; table 2 = 0; scan 0 = 1; filter 2 0 0 no ! IOOBE; filter -1 0 0 no ! IOOBE; filter 2 9 9999 no ! IOOBE; filter 0 3 0 no ! IAE; filter 0 -1 0 no ! IAE; filter 0 0 1001 no ! IAE; filter 0 0 -1001 no ! IAE;"
            + "filter 0 MORE -1000 no = 1; filter 1 LESS 1000 no = 1; query = 0; scan 0 = 1; filter 1 SAME NULL no = 1; query = 1; scan 0 = 1; filter 1 MORE 2 yes = 1; query = 2; scan 0 = 1; filter 1 SAME 2 yes = 1; query = 3; scan 0 = 1; filter 1 SAME NULL yes = 1; query = 4;"
            + "scan 0 = 1; filter 1 LESS 2 no = 1; query = 5; scan 0 = 1; filter 1 LESS 2 yes = 1; query = 6; scan 0 = 1; filter 1 SAME 2 no = 1; query = 7; scan 0 = 1; scan 0 = 2; filter 1 MORE 2 no = 2; scrap = 2;"
            + "begin 0 = 0; rows 0 0 1,1 2,2 3,3 4,NULL; gives 0 0 : 1,1 2,2 3,3; gives 0 1 :; gives 0 2 : 1,1 2,2; gives 0 3 : 1,1 3,3; gives 0 4 :; gives 0 5 : 1,1; gives 0 6 : 2,2 3,3; gives 0 7 : 2,2");
        run(23, "filterColumns 0 0 0 no ! ISE; filterColumns 9 9 9 no ! ISE; table 3 = 0; scan 0 = 1; filterColumns 3 0 0 no ! IOOBE; filterColumns -1 0 0 no ! IOOBE; filterColumns 0 0 3 no ! IOOBE; filterColumns 0 0 -1 no ! IOOBE; filterColumns 0 9 3 no ! IOOBE; filterColumns 0 3 0 no ! IAE; filterColumns 0 -1 0 yes ! IAE;"
            + "filterColumns 1 LESS 2 no = 1; query = 0; scan 0 = 1; filterColumns 1 LESS 2 yes = 1; query = 1; scan 0 = 1; filterColumns 1 SAME 2 no = 1; query = 2; scan 0 = 1; filterColumns 1 MORE 2 no = 1; query = 3; scan 0 = 1; filterColumns 1 SAME 1 no = 1; query = 4; scan 0 = 1; filterColumns 2 MORE 0 yes = 1; query = 5;"
            + "begin 0 = 0; row 0 0 1 1 2 = DONE; row 0 0 2 2 2 = DONE; row 0 0 3 NULL 2 = DONE; row 0 0 4 3 2 = DONE; row 0 0 5 NULL NULL = DONE; gives 0 0 : 1,1,2; gives 0 1 : 2,2,2 4,3,2; gives 0 2 : 2,2,2; gives 0 3 : 4,3,2; gives 0 4 : 1,1,2 2,2,2 4,3,2; gives 0 5 : 2,2,2 3,NULL,2 4,3,2");
        run(24, "ratio 0 0 0 ! ISE; ratio 9 9 9999 ! ISE; table 3 = 0; scan 0 = 1; ratio 3 0 0 ! IOOBE; ratio -1 0 0 ! IOOBE; ratio 0 3 0 ! IOOBE; ratio 0 -1 0 ! IOOBE; ratio 0 3 9999 ! IOOBE; ratio 0 1 1001 ! IAE; ratio 0 1 -1001 ! IAE; ratio 0 1 NULL ! IAE;"
            + "ratio 1 2 3 = 1; query = 0; scan 0 = 1; ratio 1 2 -1 = 1; query = 1; scan 0 = 1; ratio 1 2 0 = 1; query = 2; scan 0 = 1; filter 0 LESS 6 no = 1; ratio 1 2 1000 = 1; query = 3; scan 0 = 1; ratio 1 2 -1000 = 1; query = 4; begin 0 = 0;"
            + "row 0 0 1 7 2 = DONE; row 0 0 2 -7 4 = DONE; row 0 0 3 -3 4 = DONE; row 0 0 4 NULL 0 = DONE; row 0 0 5 5 NULL = DONE; row 0 0 -1 1000 1 = DONE; row 0 0 -2 1000 -1 = DONE; gives 0 0 : 1,7,2; gives 0 1 : 2,-7,4; gives 0 2 : 3,-3,4; gives 0 3 : -1,1000,1; gives 0 4 : -2,1000,-1;"
            + "row 0 0 6 0 0 = DONE; run 0 0 ! AE; at 0 0 = -2; atByLoops 0 1 0 0 ! AE; atByLoops 0 1 -5 9 ! AE; run 0 3 = 1; at 0 0 = -1; update 0 0 6 1 NULL = DONE; gives 0 2 : 3,-3,4; update 0 0 6 2 NULL = DONE; gives 0 2 : 3,-3,4");
        // a row that is thrown away later makes the query fail too; one that a role does not see, or that is filtered before, does not
        run(24, "table 2 = 0; veil 1 0 1 MORE 0 = 1; scan 0 = 1; ratio 0 1 1 = 1; filter 0 MORE 5 no = 1; query = 0; scan 0 = 1; filter 1 MORE 0 no = 1; ratio 0 1 1 = 1; query = 1; scan 0 = 1; scan 0 = 2; ratio 0 1 0 = 2; join SEMI 0 0 = 1; query = 2; scan 0 = 1; ratio 0 1 9 = 1; group NONE COUNT 0 = 1; query = 3;"
            + "begin 0 = 0; rows 0 0 1,1 3,0; commit 0 = DONE; begin 0 = 1; run 1 0 ! AE; gives 1 1 : 1,1; run 1 2 ! AE; run 1 3 ! AE; begin 1 = 2; gives 2 0 :; gives 2 1 : 1,1; gives 2 2 :; gives 2 3 : NULL,0; begin 2 = 3; run 3 0 ! AE");
        run(26, "keep 1 ! ISE; keep 0 ! ISE; table 4 = 0; scan 0 = 1; keep 0 ! IAE; keep 16 ! IAE; keep 17 ! IAE; keep -1 ! IAE; keep NULL ! IAE; keep MAX ! IAE; keep 1024 ! IAE; keep 10 = 1; keep 4 ! IAE; filter 2 0 0 no ! IOOBE; query = 0; scan 0 = 1; keep 15 = 1; query = 1; scan 0 = 1; keep 8 = 1; query = 2;"
            + "begin 0 = 0; row 0 0 1 2 3 4 = DONE; row 0 0 2 2 0 4 = DONE; row 0 0 3 1 0 9 = DONE; gives 0 0 : 1,9 2,4 2,4; gives 0 1 : 1,2,3,4 2,2,0,4 3,1,0,9; gives 0 2 : 4 4 9");
        run(26, "table 4 = 0; table 2 = 1; scan 0 = 1; scan 0 = 2; scan 1 = 3; join INNER 0 0 = 2; join INNER 0 0 = 1; keep 1024 ! IAE; keep 1023 = 1; keep 513 = 1; query = 0; begin 0 = 0; row 0 0 1 2 3 4 = DONE; row 0 1 1 7 = DONE; gives 0 0 : 1,7");
        run(27, "group 0 0 0 ! ISE; group 9 9 9 ! ISE; table 3 = 0; scan 0 = 1; group 3 COUNT 0 ! IOOBE; group -2 COUNT 0 ! IOOBE; group NULL COUNT 0 ! IOOBE; group 0 SUM 3 ! IOOBE; group 0 LEAST -1 ! IOOBE; group NONE GREATEST 3 ! IOOBE; group 0 7 3 ! IOOBE; group 3 7 0 ! IOOBE; group 0 4 0 ! IAE; group 0 -1 0 ! IAE; group NONE 4 2 ! IAE;"
            + "group 1 COUNT 99 = 1; filter 2 0 0 no ! IOOBE; query = 0; scan 0 = 1; group 1 SUM 2 = 1; query = 1; scan 0 = 1; group 1 LEAST 2 = 1; query = 2; scan 0 = 1; group 1 GREATEST 2 = 1; query = 3; scan 0 = 1; group NONE COUNT -7 = 1; query = 4; scan 0 = 1; group NONE SUM 2 = 1; query = 5; scan 0 = 1; group NONE LEAST 2 = 1; query = 6;"
            + "scan 0 = 1; group NONE GREATEST 1 = 1; query = 7; begin 0 = 0; gives 0 0 :; gives 0 1 :; gives 0 4 : NULL,0; gives 0 5 : NULL,NULL; gives 0 6 : NULL,NULL; gives 0 7 : NULL,NULL;"
            + "row 0 0 1 5 10 = DONE; row 0 0 2 5 -4 = DONE; row 0 0 3 NULL 3 = DONE; row 0 0 4 NULL NULL = DONE; row 0 0 5 6 NULL = DONE; row 0 0 6 5 NULL = DONE; gives 0 0 : NULL,2 5,3 6,1; gives 0 1 : NULL,3 5,6 6,NULL; gives 0 2 : NULL,3 5,-4 6,NULL; gives 0 3 : NULL,3 5,10 6,NULL; gives 0 4 : NULL,6; gives 0 5 : NULL,9; gives 0 6 : NULL,-4; gives 0 7 : NULL,6");
        run(28, "combine UNION ! ISE; table 2 = 0; table 2 = 1; table 1 = 2; scan 0 = 1; combine UNION ! ISE; combine 9 ! ISE; scan 2 = 2; combine UNION ! ISE; combine 9 ! ISE; scrap = 2; scan 0 = 1; scan 1 = 2; combine 3 ! IAE; combine -1 ! IAE; combine UNION = 1; query = 0; scan 0 = 1; scan 1 = 2; combine COMMON = 1; query = 1;"
            + "scan 0 = 1; scan 1 = 2; combine WITHOUT = 1; query = 2; scan 0 = 1; keep 2 = 1; scan 1 = 2; keep 2 = 2; combine UNION = 1; query = 3; scan 0 = 1; keep 2 = 1; scan 1 = 2; keep 2 = 2; combine COMMON = 1; query = 4; scan 0 = 1; keep 2 = 1; scan 1 = 2; keep 2 = 2; combine WITHOUT = 1; query = 5;"
            + "begin 0 = 0; rows 0 0 1,5 2,NULL 3,7 4,7 5,NULL 6,8; rows 0 1 1,5 2,NULL 3,9 7,8 8,8; gives 0 0 : 1,5 2,NULL 3,7 3,9 4,7 5,NULL 6,8 7,8 8,8; gives 0 1 : 1,5 2,NULL; gives 0 2 : 3,7 4,7 5,NULL 6,8; gives 0 3 : NULL 5 7 8 9; gives 0 4 : NULL 5 8; gives 0 5 : 7");
        run(29, "scrap = 0; table 1 = 0; scan 0 = 1; scan 0 = 2; scrap = 2; scrap = 0; filter 0 0 0 no ! ISE; query ! ISE; scan 0 = 1; scan 0 = 2; scan 0 = 3; scrap = 3; scan 0 = 1; query = 0; scrap = 0; begin 0 = 0; run 0 0 = 0");
        StringBuilder many = new StringBuilder("table 1 = 0; query ! ISE;");
        for (int i = 0; i < 20; i++) {
            many.append("scan 0 = 1; query = ").append(i).append(";");
        }
        run(30, many + "scan 0 = 1; query ! ISE; scrap = 1; begin 0 = 0; run 0 19 = 0; run 0 20 ! IOOBE");
        run(30, "table 1 = 0; scan 0 = 1; scan 0 = 2; query ! ISE; join ANTI 0 0 = 1; query = 0; query ! ISE; join INNER 0 0 ! ISE; scan 0 = 1; query = 1");
    }

    static void joins() {
        run(25, "join 0 0 0 ! ISE; table 4 = 0; table 3 = 1; scan 0 = 1; join 0 0 0 ! ISE; join 9 9 9 ! ISE; scan 1 = 2; join INNER 4 0 ! IOOBE; join INNER -1 0 ! IOOBE; join INNER 0 3 ! IOOBE; join INNER 0 -1 ! IOOBE; join 9 4 0 ! IOOBE; join 5 0 0 ! IAE; join -1 0 0 ! IAE; join INNER 3 2 = 1; filter 7 0 0 no ! IOOBE; filter 6 0 0 no = 1;"
            + "scan 0 = 2; join INNER 0 0 ! ISE; join LEFT 0 0 ! ISE; join FULL 99 0 ! ISE; join 7 0 0 ! ISE; join -1 0 0 ! ISE; join SEMI 7 0 ! IOOBE; join ANTI 0 4 ! IOOBE; join SEMI 6 3 = 1; filter 7 0 0 no ! IOOBE; filter 6 0 0 no = 1; query = 0");
        run(25, "table 4 = 0; table 2 = 1; scan 0 = 1; scan 0 = 2; scan 1 = 3; join INNER 0 0 = 2; join INNER 0 5 = 1; filter 9 0 0 no = 1; filter 10 0 0 no ! IOOBE");
        String data = "begin 0 = 0; rows 0 0 1,5 2,6 3,NULL 4,5; row 0 1 5 9 0 = DONE; row 0 1 6 5 1 = DONE; row 0 1 7 5 2 = DONE; row 0 1 8 NULL 3 = DONE;";
        String make = "table 2 = 0; table 3 = 1;";
        run(25, make + "scan 0 = 1; scan 1 = 2; join INNER 1 1 = 1; query = 0; scan 0 = 1; scan 1 = 2; join LEFT 1 1 = 1; query = 1; " + data
            + "gives 0 0 : 1,5,6,5,1 1,5,7,5,2 4,5,6,5,1 4,5,7,5,2; gives 0 1 : 1,5,6,5,1 1,5,7,5,2 2,6,NULL,NULL,NULL 3,NULL,NULL,NULL,NULL 4,5,6,5,1 4,5,7,5,2");
        run(25, make + "scan 0 = 1; scan 1 = 2; join FULL 1 1 = 1; query = 0; scan 0 = 1; scan 1 = 2; join SEMI 1 1 = 1; query = 1; scan 0 = 1; scan 1 = 2; join ANTI 1 1 = 1; query = 2; scan 1 = 1; scan 0 = 2; join SEMI 1 1 = 1; query = 3; scan 1 = 1; scan 0 = 2; join ANTI 0 1 = 1; query = 4;" + data
            + "gives 0 0 : NULL,NULL,5,9,0 NULL,NULL,8,NULL,3 1,5,6,5,1 1,5,7,5,2 2,6,NULL,NULL,NULL 3,NULL,NULL,NULL,NULL 4,5,6,5,1 4,5,7,5,2; gives 0 1 : 1,5 4,5; gives 0 2 : 2,6 3,NULL; gives 0 3 : 6,5,1 7,5,2; gives 0 4 : 7,5,2 8,NULL,3");
        run(25, make + "scan 0 = 1; scan 1 = 2; join INNER 1 0 = 1; query = 0; scan 1 = 1; scan 0 = 2; join FULL 0 1 = 1; query = 1;" + data + "gives 0 0 : 1,5,5,9,0 2,6,6,5,1 4,5,5,9,0; gives 0 1 : NULL,NULL,NULL,3,NULL 5,9,0,1,5 5,9,0,4,5 6,5,1,2,6 7,5,2,NULL,NULL 8,NULL,3,NULL,NULL");
        // the tree put earlier is the left one; a third one joins what the last two gave
        run(25, "table 1 = 0; table 2 = 1; table 2 = 2; scan 0 = 1; scan 1 = 2; scan 2 = 3; join INNER 1 0 = 2; join INNER 0 1 = 1; query = 0; begin 0 = 0; rows 0 0 4 5; rows 0 1 1,4 2,5 3,4; rows 0 2 4,8 5,9; gives 0 0 : 4,1,4,4,8 4,3,4,4,8 5,2,5,5,9");
    }

    static void results() {
        String one = "table 2 = 0; table 1 = 1; scan 0 = 1; query = 0; scan 0 = 1; ratio 0 1 1 = 1; query = 1; begin 0 = 0; ";
        run(31, "run 0 0 ! IOOBE; table 1 = 0; scan 0 = 1; query = 0; run 0 0 ! IOOBE; begin 0 = 0; run 0 1 ! IOOBE; run 0 -1 ! IOOBE; run 1 0 ! IOOBE; run -1 0 ! IOOBE; run 0 0 = 0; commit 0 = DONE; run 0 0 ! ISE; run 0 1 ! IOOBE; begin 0 = 1; begin 0 = 2; row 1 0 1 = DONE; row 2 0 1 = WAITS; run 2 0 ! ISE; run 1 0 = 1; abort 2 = 0; run 2 0 ! ISE");
        run(31, one + "rows 0 0 1,1 2,0; run 0 1 ! AE; hasRead 0 0 99 = 0; at 0 0 ! IOOBE; run 0 0 = 2; at 1 0 = 2; run 0 1 ! AE; at 1 0 = 2; at 1 1 = 0; update 0 0 2 1 2 = DONE; run 0 1 = 2; commit 0 = DONE; at 1 1 = 2; begin 0 = 1; run 1 1 = 2; state 1 = ACTIVE; outcome 1 = NONE");
        run(31, one + "commit 0 = DONE; run 0 1 ! ISE; begin 0 = 1; begin 0 = 2; rows 1 0 5,1; gives 1 0 : 5,1; gives 2 0 :; commit 1 = DONE; gives 2 0 :; begin 0 = 3; gives 3 0 : 5,1; delete 3 0 5 = DONE; gives 3 0 :");
        run(31, "table 3 = 0; scan 0 = 1; keep 6 = 1; query = 0; begin 0 = 0; row 0 0 9 3 1 = DONE; row 0 0 8 3 NULL = DONE; row 0 0 7 NULL 5 = DONE; row 0 0 6 -3 9 = DONE; row 0 0 5 3 1 = DONE; row 0 0 4 NULL NULL = DONE; row 0 0 3 -1000 0 = DONE; row 0 0 2 3 -2 = DONE; gives 0 0 : NULL,NULL NULL,5 -1000,0 -3,9 3,NULL 3,-2 3,1 3,1");
        run(32, one + "at 0 0 ! IOOBE; rows 0 0 3,4 1,NULL; at 0 0 ! IOOBE; run 0 0 = 2; at 0 0 = 1; at 0 1 = NULL; at 1 0 = 3; at 1 1 = 4; at 2 0 ! IOOBE; at -1 0 ! IOOBE; at 0 2 ! IOOBE; at 0 -1 ! IOOBE; delete 0 0 1 = DONE; at 0 0 = 1; abort 0 = 3; at 0 0 = 1; crash 2 = 2; at 1 1 = 4; begin 0 = 1; atByLoops 1 0 0 0 ! IOOBE; at 1 1 = 4; run 1 0 = 0; at 0 0 ! IOOBE");
        run(33, "atByLoops 0 0 0 0 ! IOOBE; " + one + "rows 0 0 3,4 1,1; atByLoops 0 2 0 0 ! IOOBE; atByLoops 0 -1 0 0 ! IOOBE; atByLoops 1 0 0 0 ! IOOBE; atByLoops -1 0 0 0 ! IOOBE; atByLoops 0 0 0 0 = 1; atByLoops 0 0 1 1 = 4; atByLoops 0 0 2 0 ! IOOBE; atByLoops 0 0 -1 0 ! IOOBE; atByLoops 0 0 0 2 ! IOOBE; atByLoops 0 0 0 -1 ! IOOBE;"
            + "hasRead 0 0 99 = 0; at 0 0 ! IOOBE; atByLoops 0 1 0 0 = 1; row 0 0 5 0 = DONE; atByLoops 0 1 0 0 ! AE; atByLoops 0 1 99 0 ! AE; begin 0 = 1; row 1 0 3 0 = WAITS; atByLoops 1 0 0 0 ! ISE; commit 0 = DONE; atByLoops 0 0 0 0 ! ISE; atByLoops 0 0 99 0 ! ISE; atByLoops 0 1 99 0 ! ISE; atByLoops 0 2 99 0 ! IOOBE; state 1 = ABORTED; atByLoops 1 0 0 0 ! ISE");
    }

    /** The largest results: three tables of 8 rows that all meet. */
    static void largest() {
        String full = "table 3 = 0; begin 0 = 0; row 0 0 1 5 1 = DONE; row 0 0 2 5 2 = DONE; row 0 0 3 5 3 = DONE; row 0 0 4 5 4 = DONE; row 0 0 5 5 5 = DONE; row 0 0 6 5 6 = DONE; row 0 0 7 5 7 = DONE; row 0 0 8 5 8 = DONE; ";
        run(31, full + "scan 0 = 1; scan 0 = 2; scan 0 = 3; join INNER 1 1 = 2; join INNER 1 1 = 1; query = 0; scan 0 = 1; scan 0 = 2; join LEFT 1 1 = 1; scan 0 = 2; join FULL 4 1 = 1; group NONE SUM 8 = 1; query = 1;"
            + "scan 0 = 1; scan 0 = 2; scan 0 = 3; join INNER 1 1 = 2; join FULL 0 0 = 1; group 6 COUNT 0 = 1; query = 2; run 0 0 = 512; at 0 0 = 1; at 511 0 = 8; at 511 8 = 8; at 511 9 ! IOOBE; at 512 0 ! IOOBE; at 64 0 = 2; at 64 3 = 1; at 8 3 = 2; at 8 6 = 1; at 7 6 = 8; at 100 0 = 2; at 100 3 = 5; at 100 6 = 5;"
            + "atByLoops 0 0 511 6 = 8; atByLoops 0 0 512 0 ! IOOBE; gives 0 1 : NULL,2304; gives 0 2 : 1,8 2,8 3,8 4,8 5,8 6,8 7,8 8,8; view 0 = 0; commit 0 = DONE; viewRows 0 = 512; viewAt 0 511 8 = 8; viewAnew 0 100 6 = 5");
    }

    static void plans() {
        // 0: 6 rows, column 1 with 2 values; 1: 4 rows, column 1 with 3 values and NULL; 2: 1 row
        String base = "table 2 = 0; table 2 = 1; table 2 = 2; begin 0 = 0; rows 0 0 1,7 2,7 3,7 4,8 5,8 6,NULL; rows 0 1 1,1 2,2 3,3 4,NULL; rows 0 2 9,9; commit 0 = DONE; ";
        String join = "scan 0 = 1; scan 1 = 2; join INNER 1 1 = 1; query = 0; ";
        run(34, "analyze = 0; " + base + join + "analyze = 0; prepare 0 = 8; analyze = 1; analyze = 0; planAt 0 0 ! ISE; prepare 0 = 8; scan 0 = 1; scan 0 = 2; join INNER 0 0 = 1; query = 1; prepare 1 = 6; analyze = 2; planned = 3");
        run(34, base + join + "prepare 0 = 1; analyze = 1; prepare 0 = 8; begin 0 = 1; delete 1 0 1 = DONE; commit 1 = DONE; prepare 0 = 8; analyze = 1; prepare 0 = 6; begin 0 = 2; delete 2 0 2 = DONE; analyze = 1; prepare 0 = 6; planned = 4; abort 2 = 1");
        run(35, "prepare 0 ! IOOBE; " + base + "analyze = 0;" + join + "prepare -1 ! IOOBE; prepare 1 ! IOOBE; prepare 0 = 8; planned = 1; prepare 0 = 8; planned = 1; veil 1 0 0 LESS 5 = 1; planAt 0 0 ! ISE; prepare 0 = 8; planned = 2; table 1 = 3; planAt 0 0 ! ISE; prepare 0 = 8; check 3 0 LESS 5 = 1; planAt 0 0 ! ISE; prepare 0 = 8;"
            + "table 2 = 4; prepare 0 = 8; refer 4 1 3 BLANK = 0; planAt 0 0 ! ISE; prepare 0 = 8; planned = 6; veil 1 0 0 9 5 ! IAE; check 3 0 9 9 ! IAE; refer 4 1 3 BLANK ! ISE; table 9 ! IAE; planAt 0 0 = 0; begin 0 = 1; run 1 0 = 0; planAt 0 1 = 1; planned = 6");
        // no block: what is on the way, and what ends it
        run(35, "table 2 = 0; scan 0 = 1; query = 0; scan 0 = 1; scan 0 = 2; join LEFT 0 0 = 1; query = 1; scan 0 = 1; scan 0 = 2; join SEMI 0 0 = 1; query = 2; scan 0 = 1; scan 0 = 2; combine UNION = 1; query = 3; scan 0 = 1; scan 0 = 2; join INNER 0 0 = 1; ratio 0 0 1 = 1; query = 4;"
            + "scan 0 = 1; scan 0 = 2; join INNER 0 0 = 1; filter 0 LESS 5 yes = 1; keep 3 = 1; filterColumns 0 SAME 1 no = 1; group 0 SUM 1 = 1; query = 5; scan 0 = 1; filter 0 LESS 5 no = 1; query = 6; scan 0 = 1; scan 0 = 2; join FULL 0 0 = 1; query = 7; scan 0 = 1; scan 0 = 2; join ANTI 0 0 = 1; query = 8;"
            + "prepare 0 = NONE; prepare 1 = NONE; prepare 2 = NONE; prepare 3 = NONE; prepare 4 = NONE; prepare 6 = NONE; prepare 7 = NONE; prepare 8 = NONE; planned = 0; prepare 5 = 1; planned = 1; planAt 0 0 ! ISE; planAt 6 0 ! ISE; planAt 5 0 = 0; planAt 5 1 = 1; analyze = 1");
        // filters divide, by the values that differ for SAME, otherwise by 3; a comparison of two columns does not
        run(35, base + "analyze = 0; scan 0 = 1; filter 1 SAME 7 no = 1; scan 1 = 2; join INNER 0 0 = 1; query = 0; scan 0 = 1; filter 1 SAME 7 yes = 1; scan 1 = 2; join INNER 0 0 = 1; query = 1; scan 0 = 1; scan 1 = 2; filter 1 LESS 2 no = 2; join INNER 1 0 = 1; query = 2;"
            + "scan 0 = 1; filterColumns 0 LESS 1 no = 1; scan 1 = 2; join INNER 1 1 = 1; query = 3; scan 0 = 1; scan 1 = 2; join INNER 1 1 = 1; filter 1 SAME 7 no = 1; query = 4; scan 0 = 1; scan 1 = 2; filter 1 LESS 7 no = 2; filter 0 LESS 7 no = 2; join INNER 1 1 = 1; query = 5; scan 0 = 1; filter 1 SAME NULL no = 1; scan 2 = 2; join INNER 0 0 = 1; query = 6;"
            + "prepare 0 = 2; prepare 1 = 1; prepare 2 = 1; prepare 3 = 8; prepare 4 = 8; prepare 5 = 2; prepare 6 = 1");
        // a filter over a join below the first one counts for the leaf of its column; a keep is a leaf of 10 rows
        run(36, base + "analyze = 0; scan 0 = 1; scan 1 = 2; join INNER 1 0 = 1; filter 3 MORE 1 no = 1; filter 0 LESS 3 yes = 1; scan 2 = 2; join INNER 2 0 = 1; query = 0; scan 0 = 1; keep 3 = 1; scan 2 = 2; join INNER 0 1 = 1; query = 1; scan 2 = 1; scan 0 = 2; scan 1 = 3; filter 0 SAME 2 no = 3; join LEFT 0 0 = 2; join INNER 0 0 = 1; query = 2;"
            + "planAt 0 0 ! ISE; planAt 3 0 ! IOOBE; planAt -1 0 ! IOOBE; prepare 0 = 2; planAt 0 0 = 0; planAt 0 1 = 1; planAt 0 2 = 2; planAt 0 3 = NONE; planAt 0 -1 = NONE; planAt 0 NULL = NONE; planAt 0 MAX = NONE; prepare 1 = 1; planAt 1 0 = 0; planAt 1 1 = 1; planAt 1 2 = NONE; prepare 2 = 1; planAt 2 1 = 1; planAt 2 2 = NONE; planned = 3; planAt 3 0 ! IOOBE");
        // an order that is not the one written: 0 and 1 are large, 2 is small and joins both
        run(36, base + "analyze = 0; scan 0 = 1; scan 1 = 2; scan 2 = 3; join INNER 0 0 = 2; join INNER 0 2 = 1; query = 0; scan 1 = 1; scan 0 = 2; join INNER 1 1 = 1; scan 2 = 2; join INNER 2 0 = 1; query = 1; prepare 0 = 2; planAt 0 0 = 0; planAt 0 1 = 2; planAt 0 2 = 1; prepare 1 = 2; planAt 1 0 = 1; planAt 1 1 = 2; planAt 1 2 = 0");
        run(37, "planned = 0; " + base + join + "planned = 0; planAt 0 0 ! ISE; planned = 0; prepare 0 = 1; planned = 1; prepare 0 = 1; planned = 1; analyze = 1; planned = 1; prepare 0 = 8; planned = 2; prepare 5 ! IOOBE; begin 0 = 1; run 1 0 = 0; planned = 2");
    }

    static void views() {
        run(38, "view 0 ! IOOBE; table 2 = 0; scan 0 = 1; query = 0; view 1 ! IOOBE; view -1 ! IOOBE; view 0 = 0; view 0 = 1; view 0 = 2; view 0 = 3; view 0 = 4; view 0 = 5; view 0 ! ISE; view 1 ! IOOBE; viewRows 5 = 0; viewRows 6 ! IOOBE");
        run(38, "table 2 = 0; scan 0 = 1; ratio 0 1 1 = 1; query = 0; scan 0 = 1; scan 0 = 2; join LEFT 0 0 = 1; query = 1; scan 0 = 1; scan 0 = 2; join FULL 0 0 = 1; query = 2; scan 0 = 1; scan 0 = 2; join SEMI 0 0 = 1; query = 3; scan 0 = 1; scan 0 = 2; join ANTI 0 0 = 1; query = 4; scan 0 = 1; scan 0 = 2; combine UNION = 1; query = 5;"
            + "scan 0 = 1; group NONE COUNT 0 = 1; query = 6; scan 0 = 1; group 0 LEAST 1 = 1; query = 7; scan 0 = 1; group 0 GREATEST 1 = 1; query = 8; scan 0 = 1; group 0 SUM 1 = 1; filter 0 LESS 5 no = 1; query = 9; scan 0 = 1; group 0 SUM 1 = 1; group 0 COUNT 1 = 1; query = 10; scan 0 = 1; group 0 COUNT 1 = 1; keep 1 = 1; query = 11; scan 0 = 1; ratio 0 1 1 = 1; keep 1 = 1; query = 12;"
            + "view 0 ! ISE; view 1 ! ISE; view 2 ! ISE; view 3 ! ISE; view 4 ! ISE; view 5 ! ISE; view 6 ! ISE; view 7 ! ISE; view 8 ! ISE; view 9 ! ISE; view 10 ! ISE; view 11 ! ISE; view 12 ! ISE; viewRows 0 ! IOOBE;"
            + "scan 0 = 1; group 0 COUNT 1 = 1; query = 13; scan 0 = 1; filter 1 MORE 1 yes = 1; filterColumns 0 SAME 1 yes = 1; scan 0 = 2; join INNER 0 0 = 1; keep 9 = 1; group 0 SUM 1 = 1; query = 14; view 13 = 0; view 14 = 1; view 13 = 2; viewRows 2 = 0");
        run(39, "viewRows 0 ! IOOBE; table 2 = 0; veil 1 0 0 LESS 2 = 1; begin 0 = 0; rows 0 0 1,5 2,6; commit 0 = DONE; scan 0 = 1; query = 0; scan 0 = 1; group 1 SUM 0 = 1; query = 1; scan 0 = 1; group 1 COUNT 0 = 1; query = 2; view 0 = 0; view 1 = 1; view 2 = 2; viewRows 3 ! IOOBE; viewRows -1 ! IOOBE; shows 0 : 1,5 2,6; shows 1 : 5,1 6,2; shows 2 : 5,1 6,1;"
            + "begin 0 = 1; row 1 0 3 5 = DONE; delete 1 0 2 = DONE; shows 0 : 1,5 2,6; commit 1 = DONE; shows 0 : 1,5 3,5; shows 1 : 5,4; shows 2 : 5,2; begin 0 = 2; delete 2 0 1 = DONE; abort 2 = 1; shows 1 : 5,4; begin 1 = 3; delete 3 0 1 = DONE; row 3 0 4 NULL = DONE; commit 3 = DONE; shows 0 : 3,5 4,NULL; shows 1 : NULL,4 5,3; shows 2 : NULL,1 5,1");
        run(40, "viewAt 0 0 0 ! IOOBE; table 2 = 0; table 2 = 1; begin 0 = 0; rows 0 0 1,5 2,6 3,5; rows 0 1 5,50 6,60; commit 0 = DONE; scan 0 = 1; scan 1 = 2; join INNER 1 0 = 1; keep 9 = 1; query = 0; scan 0 = 1; keep 2 = 1; query = 1; view 0 = 0; view 1 = 1; viewAt 2 0 0 ! IOOBE; viewAt -1 0 0 ! IOOBE; viewAt 0 3 0 ! IOOBE; viewAt 0 0 2 ! IOOBE;"
            + "shows 0 : 1,50 2,60 3,50; shows 1 : 5 5 6; begin 0 = 1; begin 0 = 2; update 1 1 5 1 -1 = DONE; update 2 0 2 1 NULL = DONE; commit 2 = DONE; shows 0 : 1,50 3,50; shows 1 : NULL 5 5; crash 9 = 1; state 1 = ABORTED; shows 0 : 1,50 3,50; begin 0 = 3; delete 3 1 5 = DONE; shows 0 : 1,50 3,50; commit 3 = DONE; shows 0 :; shows 1 : NULL 5 5");
        run(41, "viewAnew 0 0 0 ! IOOBE; table 2 = 0; scan 0 = 1; filter 1 MORE 5 no = 1; query = 0; view 0 = 0; viewAnew 0 0 0 ! IOOBE; viewAnew 1 0 0 ! IOOBE; viewAnew -1 0 0 ! IOOBE; begin 0 = 0; rows 0 0 1,5 2,6; viewAnew 0 0 0 ! IOOBE; commit 0 = DONE; viewAnew 0 0 0 = 2; viewAnew 0 0 1 = 6; viewAnew 0 0 2 ! IOOBE; viewAnew 0 1 0 ! IOOBE; viewAnew 0 -1 0 ! IOOBE; viewAnew 0 0 -1 ! IOOBE; shows 0 : 2,6");
    }

    static void logs() {
        run(42, "checkpoint = 1; flushed = 1; checkpoint = 2; table 1 = 0; begin 0 = 0; row 0 0 5 = DONE; records = 3; flushed = 2; checkpoint = 4; flushed = 4; log CHECK,NONE CHECK,NONE WRITE,0,0,5 CHECK,NONE; state 0 = ACTIVE; commit 0 = DONE; crash 4 ! IOOBE; records = 5");
        String base = "table 2 = 0; begin 0 = 0; rows 0 0 1,1; commit 0 = DONE; begin 0 = 1; begin 0 = 2; begin 0 = 3; ";
        run(43, "crash 1 ! IOOBE; crash -1 ! IOOBE; crash 0 = 0; " + base + "crash 1 ! IOOBE; crash 3 ! IOOBE; crash -1 ! IOOBE; crash MAX ! IOOBE; crash NULL ! IOOBE; state 1 = ACTIVE; row 1 0 2 2 = DONE; row 2 0 3 3 = DONE; row 2 0 2 2 = WAITS; crash 4 = 2; state 1 = ABORTED; state 2 = ABORTED; state 3 = ABORTED; state 0 = COMMITTED; waitsFor 2 = NONE;"
            + "log WRITE,0,0,1 COMMIT,0 WRITE,1,0,2 WRITE,2,0,3 UNDO,1,0,2 ABORT,1 UNDO,2,0,3 ABORT,2; flushed = 8; committed 0 1 1 = 1; committed 0 2 1 = NULL; rowsOf 0 = 1; begin 0 = 4; row 4 0 2 2 = DONE; commit 4 = DONE; committed 0 2 1 = 2; crash 7 ! IOOBE; crash 10 = 0; records = 10");
        run(43, base + "row 1 0 2 2 = DONE; row 2 0 3 3 = DONE; row 1 0 4 4 = DONE; crash 3 = 1; log WRITE,0,0,1 COMMIT,0 WRITE,1,0,2 UNDO,1,0,2 ABORT,1; state 2 = ABORTED; committedByLog 0 2 0 = NULL; committedByLog 0 1 1 = 1");
        run(43, base + "row 1 0 2 2 = DONE; row 1 0 3 3 = DONE; row 1 0 4 4 = DONE; abort 1 = 3; records = 9; crash 6 = 2; log WRITE,0,0,1 COMMIT,0 WRITE,1,0,2 WRITE,1,0,3 WRITE,1,0,4 UNDO,1,0,4 UNDO,1,0,3 UNDO,1,0,2 ABORT,1; flushed = 9; outcome 1 = DONE; crash 9 = 0");
        run(43, base + "row 1 0 2 2 = DONE; row 1 0 3 3 = DONE; abort 1 = 2; crash 6 = 0; log WRITE,0,0,1 COMMIT,0 WRITE,1,0,2 WRITE,1,0,3 UNDO,1,0,3 UNDO,1,0,2 ABORT,1; state 1 = ABORTED");
        run(43, base + "row 3 0 2 2 = DONE; row 1 0 3 3 = DONE; abort 3 = 1; crash 6 = 1; log WRITE,0,0,1 COMMIT,0 WRITE,3,0,2 WRITE,1,0,3 UNDO,3,0,2 ABORT,3 UNDO,1,0,3 ABORT,1");
        run(43, base + "row 3 0 2 2 = DONE; abort 3 = 1; crash 4 = 0; log WRITE,0,0,1 COMMIT,0 WRITE,3,0,2 UNDO,3,0,2 ABORT,3; begin 0 = 4; row 4 0 2 5 = DONE; checkpoint = 7; crash 7 = 1; records = 9; recordKind 7 = UNDO; recordOf 7 = 4; recordAt 7 yes = 2");
        run(43, base + "crash 2 = 0; records = 2; begin 0 = 4; begin 0 = 5; begin 0 = 6; begin 0 = 7; begin 0 ! ISE; value 5 = 1; scan 0 = 1; crash 2 = 0; value 5 = 2; scan 0 = 2; query ! ISE; begin 0 = 8; insert 8 0 = DONE");
        run(44, "records = 0; table 2 = 0; begin 0 = 0; records = 0; row 0 0 1 1 = DONE; records = 1; row 0 0 1 1 = REFUSED; records = 1; begin 0 = 1; row 1 0 1 1 = WAITS; records = 1; commit 0 = DONE; records = 3; commit 1 ! ISE; crash 3 = 0; records = 3; checkpoint = 4; records = 4; begin 0 = 2; abort 2 = 0; records = 5; crash 4 = 0; records = 4");
        run(45, "flushed = 0; table 2 = 0; begin 0 = 0; row 0 0 1 1 = DONE; flushed = 0; begin 0 = 1; row 1 0 2 2 = DONE; commit 0 = DONE; flushed = 3; abort 1 = 1; flushed = 3; records = 5; begin 0 = 2; update 2 0 1 1 3 = DONE; flushed = 3; crash 6 = 1; flushed = 8; begin 0 = 3; commit 3 = DONE; flushed = 9; checkpoint = 10; flushed = 10");
        run(46, "recordKind 0 ! IOOBE; checkpoint = 1; recordKind 0 = CHECK; recordKind 1 ! IOOBE; recordKind -1 ! IOOBE; recordKind NULL ! IOOBE; table 1 = 0; begin 0 = 0; row 0 0 1 = DONE; recordKind 1 = WRITE; abort 0 = 1; recordKind 2 = UNDO; recordKind 3 = ABORT; recordKind 4 ! IOOBE; begin 0 = 1; commit 1 = DONE; recordKind 4 = COMMIT");
        run(47, "recordOf 0 ! IOOBE; checkpoint = 1; recordOf 0 = NONE; recordOf 1 ! IOOBE; recordOf -1 ! IOOBE; table 1 = 0; begin 0 = 0; begin 0 = 1; row 1 0 1 = DONE; recordOf 1 = 1; abort 1 = 1; recordOf 2 = 1; recordOf 3 = 1; commit 0 = DONE; recordOf 4 = 0");
        run(48, "recordAt 0 no ! IOOBE; checkpoint = 1; recordAt 0 no = NULL; recordAt 0 yes = NULL; recordAt 1 yes ! IOOBE; recordAt -1 no ! IOOBE; table 1 = 0; table 1 = 1; begin 0 = 0; row 0 1 7 = DONE; recordAt 1 no = 1; recordAt 1 yes = 7; abort 0 = 1; recordAt 2 no = 1; recordAt 2 yes = 7; recordAt 3 no = NULL; recordAt 3 yes = NULL; begin 0 = 1; commit 1 = DONE; recordAt 4 no = NULL; recordAt 4 yes = NULL");
    }
}
