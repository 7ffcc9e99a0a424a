import java.util.Arrays;
import java.util.concurrent.Callable;

/** One method a promise: ordinary inputs, the edges that the document names, wrong inputs. */
public final class PromiseTest {
    private static final String IAE = "throws IllegalArgumentException";
    private static final String ISE = "throws IllegalStateException";
    private static final String UOE = "throws UnsupportedOperationException";
    private static final int MIN = Integer.MIN_VALUE;
    private static final int MAX = Integer.MAX_VALUE;

    private static int wrong = 0;
    private static String promise = "";

    private interface Action {
        void run();
    }

    private static void due(String call, Callable<?> action, Object want) {
        String got;
        try {
            got = String.valueOf(action.call());
        } catch (Exception e) {
            got = "throws " + e.getClass().getSimpleName();
        }
        if (!got.equals(String.valueOf(want))) {
            wrong++;
            System.out.println(promise + ": " + call + " answered " + got + ", due is " + want);
        }
    }

    private static void dueVoid(String call, Action action, String want) {
        due(call, () -> {
            action.run();
            return "nothing";
        }, want);
    }

    /** A desk with these rows, each {key, value}, prepared. */
    private static JoinDesk desk(int[][] left, int[][] right, int groups) {
        JoinDesk x = new JoinDesk(400, 400, groups);
        for (int[] row : left) {
            x.add(true, row[0], row[1]);
        }
        for (int[] row : right) {
            x.add(false, row[0], row[1]);
        }
        x.prepare();
        return x;
    }

    private static int[][] keys(int... keys) {
        int[][] rows = new int[keys.length][];
        for (int i = 0; i < keys.length; i++) {
            rows[i] = new int[] {keys[i], 10 * i + 1};
        }
        return rows;
    }

    /** Left keys sorted: 1 1 3 5 5; right ones: 1 2 5 5 7 7. */
    private static JoinDesk mixed() {
        return desk(new int[][] {{5, 50}, {1, 10}, {3, 30}, {5, 51}, {1, 11}},
                new int[][] {{7, 70}, {5, 500}, {2, 20}, {1, 100}, {5, 501}, {7, 71}}, 400);
    }

    private static String pairHere(JoinDesk x) {
        int[] facts = new int[5];
        for (int what = 0; what < 5; what++) {
            facts[what] = x.pair(what);
        }
        return Arrays.toString(facts);
    }

    /** All pairs from where the cursor is, each as key:left number/right number. */
    private static String restOf(JoinDesk x) {
        StringBuilder all = new StringBuilder();
        while (x.next()) {
            all.append(x.pair(0)).append(':').append(x.pair(3)).append('/').append(x.pair(4)).append(' ');
        }
        return all.toString().trim();
    }

    private static void newObject() {
        promise = "promise 1";
        JoinDesk fresh = new JoinDesk(2, 3, 1);
        for (int what = 0; what < 5; what++) {
            int w = what;
            due("about(" + w + ")", () -> fresh.about(w), 0);
        }
        due("NONE", () -> JoinDesk.NONE, -1);
        due("rows that fit into (2, 3, 1)", () -> fill(2, 3, 1), "2 3");
        due("rows that fit into (0, 0, 0)", () -> fill(0, 0, 0), "0 0");
        due("rows that fit into (-1, MIN, -1)", () -> fill(-1, MIN, -1), "0 0");
        due("rows that fit into (400, 400, 0)", () -> fill(400, 400, 0), "400 400");
        due("rows that fit into (401, MAX, MAX)", () -> fill(401, MAX, MAX), "400 400");
        due("rows that fit into (399, 1, 0)", () -> fill(399, 1, 0), "399 1");
        due("groups with room for -5", () -> desk(keys(1), keys(1), -5).groups(), UOE);
    }

    /** A desk for each table, since both full ones would take more than the 512 calls of one. */
    private static String fill(int left, int right, int groups) {
        return fill(new JoinDesk(left, right, groups), true) + " " + fill(new JoinDesk(left, right, groups), false);
    }

    private static int fill(JoinDesk x, boolean left) {
        for (int n = 0; n < 450; n++) {
            try {
                x.add(left, n, n);
            } catch (IllegalStateException full) {
                return n;
            }
        }
        return 450;
    }

    private static void add() {
        promise = "promise 2";
        JoinDesk x = new JoinDesk(2, 1, 1);
        due("first left row", () -> x.add(true, MIN, MAX), 0);
        due("first right row", () -> x.add(false, MAX, MIN), 0);
        due("second left row", () -> x.add(true, MIN, MAX), 1);
        x.prepare();
        due("a left row too many", () -> x.add(true, 0, 0), ISE);
        due("a right row too many", () -> x.add(false, 0, 0), ISE);
        due("still PREPARED", () -> x.about(3), 1);
        due("left rows", () -> x.about(1), 2);
        due("right rows", () -> x.about(2), 1);

        JoinDesk y = new JoinDesk(2, 2, 2);
        y.prepare();
        due("PREPARED", () -> y.about(3), 1);
        y.add(false, 1, 1);
        due("PREPARED after a right row", () -> y.about(3), 0);
        y.prepare();
        y.add(true, 1, 1);
        due("PREPARED after a left row", () -> y.about(3), 0);
    }

    private static void prepare() {
        promise = "promise 3";
        JoinDesk x = mixed();
        due("PREPARED", () -> x.about(3), 1);
        x.next();
        x.next();
        x.prepare();
        due("pair(0) after prepare()", () -> x.pair(0), 0);
        due("cells after prepare()", () -> x.about(0), 0);
        due("all pairs after prepare()", () -> restOf(x), "1:1/3 1:4/3 5:0/1 5:0/4 5:3/1 5:3/4");
        x.add(true, 2, 0);
        x.add(true, MIN, 0);
        x.add(false, MIN, 0);
        x.prepare();
        due("pairs with rows that came later", () -> restOf(x),
                MIN + ":6/6 1:1/3 1:4/3 2:5/2 5:0/1 5:0/4 5:3/1 5:3/4");
        x.kind(2);
        x.prepare();
        due("KIND stays", () -> x.about(4), 2);
        JoinDesk none = new JoinDesk(0, 0, 0);
        none.prepare();
        due("next() of empty tables", none::next, false);
        due("mark() of empty tables", none::mark, 0);
        due("seek() of empty tables", () -> none.seek(MIN), false);
    }

    private static void kind() {
        promise = "promise 4";
        JoinDesk x = mixed();
        x.next();
        x.mark();
        for (int bad : new int[] {-1, 4, MIN, MAX}) {
            dueVoid("kind(" + bad + ")", () -> x.kind(bad), IAE);
        }
        due("the pair after a wrong kind", () -> x.pair(3), 1);
        due("back() after a wrong kind", x::back, 1);
        due("KIND after a wrong kind", () -> x.about(4), 0);
        x.kind(0);
        due("pair(3) after the same kind", () -> x.pair(3), -1);
        due("back() after the same kind", x::back, ISE);
        due("cells after the same kind", () -> x.about(0), 0);
        String[] wanted = {
            "1:1/3 1:4/3 5:0/1 5:0/4 5:3/1 5:3/4",
            "1:1/3 1:4/3 3:2/-1 5:0/1 5:0/4 5:3/1 5:3/4",
            "1:1/3 1:4/3 2:-1/2 5:0/1 5:0/4 5:3/1 5:3/4 7:-1/0 7:-1/5",
            "1:1/3 1:4/3 2:-1/2 3:2/-1 5:0/1 5:0/4 5:3/1 5:3/4 7:-1/0 7:-1/5",
        };
        for (int k = 3; k >= 0; k--) {
            int kind = k;
            x.kind(kind);
            due("about(4)", () -> x.about(4), kind);
            due("all pairs of kind " + k, () -> restOf(x), wanted[kind]);
        }
        JoinDesk early = new JoinDesk(3, 3, 3);
        early.kind(1);
        early.add(true, 4, 4);
        early.prepare();
        due("a kind chosen before prepare()", () -> restOf(early), "4:0/-1");
        JoinDesk lone = desk(keys(8, 2, 8, 8), keys(5, 2, 5, 9, 9), 1);
        lone.kind(1);
        due("lone left rows of one key", () -> restOf(lone), "2:1/1 8:0/-1 8:2/-1 8:3/-1");
        lone.kind(2);
        due("lone right rows of one key", () -> restOf(lone), "2:1/1 5:-1/0 5:-1/2 9:-1/3 9:-1/4");
    }

    private static void next() {
        promise = "promise 5";
        JoinDesk x = new JoinDesk(3, 3, 3);
        due("next() before prepare()", x::next, ISE);
        JoinDesk y = desk(keys(2, 1, 2), keys(2, 2), 1);
        for (int n = 0; n < 4; n++) {
            due("next() " + n, y::next, true);
        }
        due("next() behind the last", y::next, false);
        due("next() behind the last, again", y::next, false);
        due("pair there", () -> pairHere(y), "[0, 0, 0, -1, -1]");
        y.rewind();
        y.next();
        y.add(true, 1, 1);
        due("next() after a row came", y::next, ISE);
        due("outermost keys", () -> restOf(desk(keys(MAX, MIN), keys(MIN, MAX), 1)), MIN + ":1/0 " + MAX + ":0/1");
    }

    private static void cellsOfNext() {
        promise = "cells of next()";
        JoinDesk x = mixed();
        // 1 | 1: both, then 1 1 3 and 1 2.
        cellsAfterNext(x, true, 7);
        cellsAfterNext(x, true, 7);
        // 3 | 2: 2 5; 3 | 5: 3 5; 5 | 5: 5 5 and 5 5 7.
        cellsAfterNext(x, true, 7 + 4 + 4 + 2 + 2 + 3);
        for (int n = 0; n < 3; n++) {
            cellsAfterNext(x, true, 22);
        }
        // The right rows of key 7 are alone.
        cellsAfterNext(x, false, 24);
        cellsAfterNext(x, false, 24);
        x.kind(3);
        int[] wanted = {7, 7, 11, 15, 22, 22, 22, 22, 24, 24};
        for (int cells : wanted) {
            cellsAfterNext(x, true, cells);
        }
        cellsAfterNext(x, false, 24);
        JoinDesk alone = desk(keys(1, 1, 2, 3), keys(), 1);
        cellsAfterNext(alone, false, 3 + 2 + 1);
        JoinDesk all = desk(keys(4, 4, 4, 4), keys(4, 4), 1);
        cellsAfterNext(all, true, 8);
    }

    private static void cellsAfterNext(JoinDesk x, boolean want, int cells) {
        due("next()", x::next, want);
        due("about(0) after it", () -> x.about(0), cells);
    }

    private static void pair() {
        promise = "promise 6";
        JoinDesk x = new JoinDesk(3, 3, 3);
        for (int bad : new int[] {-1, 5, MIN, MAX}) {
            due("pair(" + bad + ")", () -> x.pair(bad), IAE);
        }
        due("pair when not PREPARED", () -> pairHere(x), "[0, 0, 0, -1, -1]");
        x.add(true, 8, 81);
        x.add(true, 4, 41);
        x.add(false, 6, 62);
        x.add(false, 8, 82);
        x.kind(3);
        x.prepare();
        due("pair before the first", () -> pairHere(x), "[0, 0, 0, -1, -1]");
        x.next();
        due("pair of a lone left row", () -> pairHere(x), "[4, 41, 0, 1, -1]");
        x.next();
        due("pair of a lone right row", () -> pairHere(x), "[6, 0, 62, -1, 0]");
        x.next();
        due("pair of two rows", () -> pairHere(x), "[8, 81, 82, 0, 1]");
        x.add(true, 1, 1);
        due("pair when no more PREPARED", () -> pairHere(x), "[0, 0, 0, -1, -1]");
        x.prepare();
        x.next();
        x.clear();
        due("pair after clear()", () -> pairHere(x), "[0, 0, 0, -1, -1]");
    }

    private static void mark() {
        promise = "promise 7";
        due("mark() when not PREPARED", () -> new JoinDesk(1, 1, 1).mark(), ISE);
        JoinDesk x = mixed();
        for (int n = 0; n <= 6; n++) {
            due("mark() with " + n + " pairs", x::mark, n);
            x.next();
        }
        due("mark() behind the last", x::mark, 6);
        x.next();
        due("mark() behind the last, again", x::mark, 6);
        x.kind(3);
        x.seek(5);
        due("mark() before key 5", x::mark, 4);
        x.next();
        due("mark() at key 5", x::mark, 5);
    }

    private static void back() {
        promise = "promise 8";
        JoinDesk x = new JoinDesk(9, 9, 9);
        due("back() when not PREPARED", x::back, ISE);
        x.prepare();
        due("back() without mark", x::back, ISE);
        JoinDesk y = mixed();
        for (int n = 0; n < 4; n++) {
            y.next();
        }
        y.mark();
        String here = pairHere(y);
        String rest = restOf(y);
        for (int n = 0; n < 2; n++) {
            due("back()", y::back, 4);
            due("the pair after it", () -> pairHere(y), here);
            due("the pairs behind it", () -> restOf(y), rest);
        }
        y.rewind();
        due("back() after rewind()", y::back, 4);
        y.seek(MAX);
        due("back() after seek()", y::back, 4);
        due("the pair after these", () -> pairHere(y), here);
        y.prepare();
        due("back() after prepare()", y::back, ISE);
        y.mark();
        y.kind(1);
        due("back() after kind()", y::back, ISE);
        y.mark();
        y.next();
        due("back() to the start", y::back, 0);
        due("the pair at the start", () -> pairHere(y), "[0, 0, 0, -1, -1]");
        y.add(true, 1, 1);
        due("back() when no more PREPARED", y::back, ISE);
        backBetweenPairs();
    }

    private static void backBetweenPairs() {
        JoinDesk z = mixed();
        z.seek(4);
        due("mark() before key 5", z::mark, 2);
        restOf(z);
        long cells = z.about(0);
        due("back() before key 5", z::back, 2);
        due("cells stay", () -> z.about(0), cells);
        due("the pair there", () -> pairHere(z), "[0, 0, 0, -1, -1]");
        due("the pairs from there", () -> restOf(z), "5:0/1 5:0/4 5:3/1 5:3/4");
        due("mark() behind the last", z::mark, 6);
        z.rewind();
        due("back() behind the last", z::back, 6);
        due("next() there", z::next, false);
    }

    private static void seek() {
        promise = "promise 9";
        due("seek() when not PREPARED", () -> new JoinDesk(1, 1, 1).seek(0), ISE);
        JoinDesk x = mixed();
        seeks(x, 0, new int[] {MIN, 1, 2, 3, 5, 6, 7, MAX}, new int[] {0, 0, 2, 2, 2, 6, 6, 6});
        seeks(x, 1, new int[] {MIN, 1, 2, 3, 4, 6, 7, MAX}, new int[] {0, 0, 2, 2, 3, 7, 7, 7});
        seeks(x, 2, new int[] {MIN, 1, 2, 3, 5, 6, 7, 8}, new int[] {0, 0, 2, 3, 3, 7, 7, 9});
        seeks(x, 3, new int[] {MIN, 1, 2, 3, 4, 7, 8, MAX}, new int[] {0, 0, 2, 3, 4, 8, 10, 10});
        x.kind(0);
        x.next();
        x.seek(5);
        due("the pair after seek()", () -> pairHere(x), "[0, 0, 0, -1, -1]");
        due("the pairs from there", () -> restOf(x), "5:0/1 5:0/4 5:3/1 5:3/4");
        x.seek(MIN);
        due("seek() goes back too", () -> x.next() && x.pair(3) == 1, true);
        cellsOfSeek();
    }

    private static void seeks(JoinDesk x, int kind, int[] keys, int[] before) {
        x.kind(kind);
        for (int i = 0; i < keys.length; i++) {
            int key = keys[i];
            String call = "seek(" + key + ") of kind " + kind;
            due(call, () -> x.seek(key), before[i] < x.count(kind));
            due("mark() after " + call, x::mark, before[i]);
        }
    }

    private static void cellsOfSeek() {
        JoinDesk x = desk(keys(1, 2, 3, 4, 5), keys(10, 20, 30), 1);
        // Left: 3 2 1; right: 20 10.
        due("seek(0)", () -> x.seek(0), false);
        due("cells of seek(0)", () -> x.about(0), 5);
        // Left: 3 5 4; right: 20 10.
        x.seek(4);
        due("cells of seek(4)", () -> x.about(0), 10);
        // Left: 3 5; right: 20 30.
        x.seek(99);
        due("cells of seek(99)", () -> x.about(0), 14);
        x.seek(5);
        due("cells of seek(5)", () -> x.about(0), 19);
        // 5 | 10: 5; then the right rows alone: 10 20, 20 30, 30.
        due("next() after it", x::next, false);
        due("cells after it", () -> x.about(0), 19 + 3 + 5);
    }

    private static void rewind() {
        promise = "promise 10";
        JoinDesk fresh = new JoinDesk(1, 1, 1);
        dueVoid("rewind() when not PREPARED", fresh::rewind, ISE);
        JoinDesk x = mixed();
        String all = restOf(x);
        x.rewind();
        due("cells after rewind()", () -> x.about(0), 0);
        due("pair after rewind()", () -> pairHere(x), "[0, 0, 0, -1, -1]");
        due("all pairs once more", () -> restOf(x), all);
        x.kind(3);
        x.next();
        x.rewind();
        due("KIND after rewind()", () -> x.about(4), 3);
        due("mark() after rewind()", x::mark, 0);
    }

    private static void count() {
        promise = "promise 11";
        JoinDesk x = new JoinDesk(1, 1, 1);
        due("count(0) when not PREPARED", () -> x.count(0), ISE);
        due("count(4) when not PREPARED", () -> x.count(4), IAE);
        JoinDesk y = mixed();
        long[] wanted = {6, 7, 9, 10};
        for (int using = 0; using < 4; using++) {
            y.kind(using);
            for (int k = 0; k < 4; k++) {
                int kind = k;
                due("count(" + k + ")", () -> y.count(kind), wanted[k]);
            }
        }
        due("count() reads no cells", () -> y.about(0), 0);
        due("count(-1)", () -> y.count(-1), IAE);
        due("count(4)", () -> y.count(4), IAE);
        int[] same = new int[250];
        JoinDesk many = desk(keys(same), keys(same), 1);
        due("count(0) of 250 times 250", () -> many.count(0), 62500);
        due("count(3) of 250 times 250", () -> many.count(3), 62500);
    }

    private static void rows() {
        promise = "promise 12";
        due("rows() when not PREPARED", () -> new JoinDesk(1, 1, 1).rows(true, true), ISE);
        JoinDesk x = mixed();
        due("rows(true, true)", () -> x.rows(true, true), 4);
        due("rows(true, false)", () -> x.rows(true, false), 1);
        due("rows(false, true)", () -> x.rows(false, true), 3);
        due("rows(false, false)", () -> x.rows(false, false), 3);
        JoinDesk none = desk(keys(1, 2), keys(), 0);
        due("rows without any partner", () -> none.rows(true, false), 2);
        due("rows of an empty table", () -> none.rows(false, false), 0);
        x.add(true, 7, 7);
        due("rows() when no more PREPARED", () -> x.rows(false, false), ISE);
        x.prepare();
        due("rows(false, false) with one more left row", () -> x.rows(false, false), 1);
    }

    private static void groups() {
        promise = "promise 13";
        due("groups() when not PREPARED", () -> new JoinDesk(1, 1, 0).groups(), ISE);
        JoinDesk x = mixed();
        due("groups()", x::groups, 2);
        due("groups() again", x::groups, 2);
        x.kind(3);
        due("groups() by another KIND", x::groups, 2);
        JoinDesk enough = desk(keys(1, 2, 2, 3, 9), keys(3, 2, 1, 3), 3);
        due("groups() with just enough room", enough::groups, 3);
        JoinDesk tooMany = desk(keys(1, 2, 2, 3, 9), keys(3, 2, 1, 3), 2);
        due("groups() without room", tooMany::groups, UOE);
        due("group() after that", () -> tooMany.group(0, 0), ISE);
        due("groups() without any", () -> desk(keys(1), keys(2), 0).groups(), 0);
    }

    private static void group() {
        promise = "promise 14";
        JoinDesk x = new JoinDesk(9, 9, 9);
        due("group(0, 0) when not PREPARED", () -> x.group(0, 0), ISE);
        due("group(MAX, 4) when not PREPARED", () -> x.group(MAX, 4), ISE);
        due("group(-1, 0) when not PREPARED", () -> x.group(-1, 0), IAE);
        due("group(0, 5) when not PREPARED", () -> x.group(0, 5), IAE);
        due("group(0, -1) when not PREPARED", () -> x.group(0, -1), IAE);
        JoinDesk y = desk(new int[][] {{4, -3}, {2, 7}, {4, 5}, {9, 1}}, new int[][] {{4, -10}, {2, -1}, {4, 2}, {4, 1}}, 2);
        due("group() before groups()", () -> y.group(0, 0), ISE);
        y.groups();
        groupIs(y, 0, 2, 1, -7, -7, -7);
        groupIs(y, 1, 4, 6, 2 * -7, -50, 30);
        due("group(2, 0)", () -> y.group(2, 0), IAE);
        due("group(-1, 0)", () -> y.group(-1, 0), IAE);
        due("group(1, 5)", () -> y.group(1, 5), IAE);
        due("group(1, -1)", () -> y.group(1, -1), IAE);
        y.kind(3);
        due("group() after kind()", () -> y.group(1, 0), 4);
        y.add(true, 4, 0);
        due("group() after a row came", () -> y.group(0, 0), ISE);
        y.prepare();
        due("group() after prepare()", () -> y.group(0, 0), ISE);
        y.groups();
        groupIs(y, 1, 4, 9, 2 * -7, -50, 30);
        y.prepare();
        due("group() after prepare() alone", () -> y.group(0, 0), ISE);
        signsOfGroups();
    }

    private static void signsOfGroups() {
        int[][] values = {{3, 8}, {-8, -3}, {-2, 9}, {MIN, MAX}, {MIN, MIN}};
        for (int[] a : values) {
            for (int[] b : values) {
                JoinDesk x = desk(new int[][] {{1, a[0]}, {1, a[1]}}, new int[][] {{1, b[0]}, {1, b[1]}}, 1);
                x.groups();
                long[] products = {(long) a[0] * b[0], (long) a[0] * b[1], (long) a[1] * b[0], (long) a[1] * b[1]};
                long sum = Arrays.stream(products).sum();
                groupIs(x, 0, 1, 4, sum, Arrays.stream(products).min().getAsLong(), Arrays.stream(products).max().getAsLong());
            }
        }
        int[][] big = new int[5][];
        Arrays.fill(big, new int[] {0, MIN});
        JoinDesk wraps = desk(big, big, 1);
        wraps.groups();
        groupIs(wraps, 0, 0, 25, 25 * (1L << 62), 1L << 62, 1L << 62);
    }

    private static void groupIs(JoinDesk x, int i, long... facts) {
        for (int what = 0; what < 5; what++) {
            int w = what;
            due("group(" + i + ", " + w + ")", () -> x.group(i, w), facts[w]);
        }
    }

    private static void sorted() {
        promise = "promise 15";
        JoinDesk x = new JoinDesk(9, 9, 9);
        due("sorted() of no row", () -> x.sorted(true, 0, 0), IAE);
        x.add(true, 3, 30);
        due("sorted() when not PREPARED", () -> x.sorted(true, 0, 0), ISE);
        due("sorted(true, 1, 0) when not PREPARED", () -> x.sorted(true, 1, 0), IAE);
        due("sorted(true, 0, 3) when not PREPARED", () -> x.sorted(true, 0, 3), IAE);
        due("sorted(false, 0, 0) when not PREPARED", () -> x.sorted(false, 0, 0), IAE);
        JoinDesk y = desk(new int[][] {{5, 1}, {-5, 2}, {5, 0}, {MIN, 4}, {-5, 1}, {MAX, 9}}, keys(2, 1), 1);
        int[][] wanted = {{MIN, 4, 3}, {-5, 2, 1}, {-5, 1, 4}, {5, 1, 0}, {5, 0, 2}, {MAX, 9, 5}};
        for (int i = 0; i < wanted.length; i++) {
            for (int what = 0; what < 3; what++) {
                int at = i;
                int w = what;
                due("sorted(true, " + i + ", " + what + ")", () -> y.sorted(true, at, w), wanted[i][what]);
            }
        }
        due("sorted(false, 0, 2)", () -> y.sorted(false, 0, 2), 1);
        due("sorted(true, 6, 0)", () -> y.sorted(true, 6, 0), IAE);
        due("sorted(false, 2, 0)", () -> y.sorted(false, 2, 0), IAE);
        due("sorted(true, -1, 0)", () -> y.sorted(true, -1, 0), IAE);
        due("sorted(true, 0, 3)", () -> y.sorted(true, 0, 3), IAE);
        due("sorted(true, 0, -1)", () -> y.sorted(true, 0, -1), IAE);
    }

    private static void about() {
        promise = "promise 16";
        JoinDesk x = new JoinDesk(9, 9, 9);
        for (int bad : new int[] {-1, 5, MIN, MAX}) {
            due("about(" + bad + ")", () -> x.about(bad), IAE);
        }
        x.add(true, 1, 1);
        x.add(false, 1, 1);
        x.add(false, 2, 1);
        due("about(1)", () -> x.about(1), 1);
        due("about(2)", () -> x.about(2), 2);
        due("about(3)", () -> x.about(3), 0);
        x.prepare();
        due("about(3) after prepare()", () -> x.about(3), 1);
        x.next();
        due("about(0) after next()", () -> x.about(0), 5);
        x.add(true, 1, 1);
        due("about(0) when no more PREPARED", () -> x.about(0), 5);
        x.kind(2);
        due("about(0) after kind()", () -> x.about(0), 0);
        due("about(4) after kind()", () -> x.about(4), 2);
    }

    private static void clear() {
        promise = "promise 17";
        JoinDesk x = mixed();
        x.kind(3);
        x.mark();
        x.groups();
        x.next();
        x.clear();
        for (int what = 1; what < 5; what++) {
            int w = what;
            due("about(" + w + ")", () -> x.about(w), 0);
        }
        due("about(0): clear() is not told to count anew", () -> x.about(0), 7);
        due("next()", x::next, ISE);
        due("group(0, 0)", () -> x.group(0, 0), ISE);
        due("sorted(true, 0, 0)", () -> x.sorted(true, 0, 0), IAE);
        due("the first row after it", () -> x.add(true, 9, 90), 0);
        due("the second row after it", () -> x.add(true, 8, 80), 1);
        due("a right row after it", () -> x.add(false, 8, 81), 0);
        x.prepare();
        due("back()", x::back, ISE);
        due("sorted(true, 0, 1)", () -> x.sorted(true, 0, 1), 80);
        due("all pairs", () -> restOf(x), "8:1/0");
        due("count(3)", () -> x.count(3), 2);
        x.clear();
        due("room after clear()", () -> fill(x, true), 400);
    }

    /** At most 8 cells a row and 8 a call for next(), and 80 for a seek(), whatever the tables are. */
    private static void bounds() {
        promise = "bounds of cells";
        int[][] tables = {new int[80], new int[80], new int[80], new int[1], new int[0]};
        for (int i = 0; i < 80; i++) {
            tables[0][i] = 2 * i;
            tables[1][i] = 2 * i + 1;
            tables[2][i] = i / 20;
        }
        for (int[] left : tables) {
            for (int[] right : tables) {
                for (int kind = 0; kind < 4; kind++) {
                    boundsOf(desk(keys(left), keys(right), 1), kind, left.length + right.length);
                }
            }
        }
    }

    private static void boundsOf(JoinDesk x, int kind, int rows) {
        x.kind(kind);
        boolean kept = true;
        for (int calls = 1; calls <= 90; calls++) {
            x.next();
            kept = kept && x.about(0) <= 8 * rows + 8 * calls;
        }
        boolean keptBySeek = true;
        for (int key = -1; key < 50; key++) {
            x.rewind();
            x.seek(key);
            keptBySeek = keptBySeek && x.about(0) <= 80;
        }
        boolean next = kept;
        boolean seek = keptBySeek;
        due("cells of next() within bounds", () -> next, true);
        due("cells of seek() within bounds", () -> seek, true);
    }

    public static void main(String[] args) {
        newObject();
        add();
        prepare();
        kind();
        next();
        cellsOfNext();
        pair();
        mark();
        back();
        seek();
        rewind();
        count();
        rows();
        groups();
        group();
        sorted();
        about();
        clear();
        bounds();
        System.out.println(wrong == 0 ? "all answers are as due" : wrong + " answers are not as due");
        if (wrong != 0) {
            System.exit(1);
        }
    }
}
