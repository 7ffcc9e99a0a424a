import java.util.ArrayList;
import java.util.List;

/**
 * The sentences of the document that name a boundary case, each with a test of its own on new objects.
 * Steps are told as "call = answer"; without "= answer" it is enough that the call throws nothing;
 * "3 * call = answer" stands for three such calls.
 */
public final class BoundaryTest {
    /** Left keys sorted: 1 1 3 5 5; right ones: 1 2 5 5 7 7. */
    private static final String MIXED = "add(left, 5, 50); add(left, 1, 10); add(left, 3, 30); add(left, 5, 51);"
            + "add(left, 1, 11); add(right, 7, 70); add(right, 5, 500); add(right, 2, 20); add(right, 1, 100);"
            + "add(right, 5, 501); add(right, 7, 71); prepare()";
    private static final String ROOMY = "JoinDesk(400, 400, 400)";
    private static final String NO_PAIR = "here() = 0 0 0 -1 -1";
    private static final String[] WRONG_BELOW = {"-1", "-2", "MIN"};

    private static int wrong = 0;
    private static int tests = 0;
    private static String part = "";

    private static void holds(String sentence, String made, String... steps) {
        tests++;
        Script script = new Script(made);
        for (String line : steps) {
            for (String step : line.split(";")) {
                if (!step.isBlank() && !isAsDue(script, step.trim())) {
                    wrong++;
                    System.out.println(part + ": " + sentence + ": at call " + script.calls() + " of " + made);
                    return;
                }
            }
        }
    }

    private static boolean isAsDue(Script script, String step) {
        int star = step.indexOf('*');
        int times = star < 0 ? 1 : Integer.parseInt(step.substring(0, star).trim());
        int equal = step.indexOf('=');
        String call = step.substring(star + 1, equal < 0 ? step.length() : equal).trim();
        for (int n = 0; n < times; n++) {
            String got = script.ask(call);
            boolean fits = equal < 0 ? !isRefusal(got) : got.equals(step.substring(equal + 1).trim());
            if (!fits) {
                System.out.println(step + " answered " + got);
                return false;
            }
        }
        return true;
    }

    private static boolean isRefusal(String answer) {
        return answer.equals("IAE") || answer.equals("ISE") || answer.equals("UOE") || answer.contains("Exception");
    }

    /** So many rows of keys 0, 1, .. with the value 1. */
    private static String rising(String side, int rows) {
        StringBuilder steps = new StringBuilder();
        for (int key = 0; key < rows; key++) {
            steps.append("add(").append(side).append(", ").append(key).append(", 1) = ").append(key).append(';');
        }
        return steps.toString();
    }

    /** Rows of these keys, with the value 1. */
    private static String keys(String side, Object... keys) {
        StringBuilder steps = new StringBuilder();
        for (Object key : keys) {
            steps.append("add(").append(side).append(", ").append(key).append(", 1);");
        }
        return steps.toString();
    }

    /** Rows of key 7 with these values. */
    private static String values(String side, Object... values) {
        StringBuilder steps = new StringBuilder();
        for (Object value : values) {
            steps.append("add(").append(side).append(", 7, ").append(value).append(");");
        }
        return steps.toString();
    }

    private static void mostCalls() {
        part = "what it is";
        holds("at most 512 calls: the last ones answer as the first ones do", ROOMY,
                rising("left", 200), rising("right", 200), "prepare()", "110 * next() = true", "pair(0) = 109");
        holds("at most 512 calls, a full table among them", ROOMY,
                rising("left", 400), rising("right", 9), "prepare()", "kind(1)", "100 * next() = true", "mark() = 100");
        holds("at most 512 calls, all of them refused but the last one", "JoinDesk(1, 0, 0)",
                "511 * add(right, 1, 1) = ISE", "add(left, 1, 1) = 0");
    }

    private static void anyInts() {
        part = "terms";
        holds("keys are any ints", ROOMY,
                keys("left", "MAX", 0, "MIN", -1, 1), keys("right", 1, "MIN", 0, "MAX", -1), "prepare()",
                "sorted(left, 0, 0) = -2147483648; sorted(left, 1, 0) = -1; sorted(left, 2, 0) = 0",
                "sorted(left, 3, 0) = 1; sorted(left, 4, 0) = 2147483647",
                "rest() = -2147483648:2/1 -1:3/4 0:1/2 1:4/0 2147483647:0/3");
        holds("values are any ints", ROOMY,
                values("left", "MIN", "MAX"), values("right", "MAX", "MIN"), "prepare()",
                "sorted(left, 0, 1) = -2147483648; sorted(right, 0, 1) = 2147483647",
                "next(); here() = 7 -2147483648 2147483647 0 0; next(); here() = 7 -2147483648 -2147483648 0 1",
                "next(); here() = 7 2147483647 2147483647 1 0; next(); here() = 7 2147483647 -2147483648 1 1");
        holds("keys that lie farther apart than an int tells, the right one lesser", ROOMY, keys("left", "MAX"),
                keys("right", "MIN"),
                "kind(3); prepare(); rest() = -2147483648:-1/0 2147483647:0/-1; count(0) = 0; count(3) = 2; groups() = 0");
        holds("keys that lie farther apart than an int tells, the left one lesser", ROOMY, keys("left", "MIN"),
                keys("right", "MAX"),
                "kind(3); prepare(); rest() = -2147483648:0/-1 2147483647:-1/0; count(0) = 0; count(3) = 2; groups() = 0");
        holds("numbers 0, 1, .. as they came, of each table by itself", ROOMY,
                "add(left, 9, 9) = 0; add(right, 9, 9) = 0; add(left, 1, 1) = 1; add(left, 9, 9) = 2; add(right, 1, 1) = 1");
    }

    private static void preparedUntil() {
        part = "terms";
        holds("PREPARED until a left row comes", ROOMY, "prepare(); about(3) = 1; add(left, 1, 1); about(3) = 0; next() = ISE");
        holds("PREPARED until a right row comes", ROOMY, "prepare(); about(3) = 1; add(right, 1, 1); about(3) = 0; next() = ISE");
        holds("PREPARED while no row comes: a refused one does not", "JoinDesk(1, 1, 1)",
                "add(left, 1, 1); add(right, 1, 1); prepare(); add(left, 1, 1) = ISE; add(right, 1, 1) = ISE; about(3) = 1",
                "next() = true");
        holds("PREPARED while no row comes: no other call ends it", ROOMY, MIXED,
                "kind(3); next(); mark(); back(); seek(3); rewind(); count(0); rows(left, lone); groups(); group(0, 0)",
                "sorted(left, 0, 0); about(0); pair(0); prepare(); about(3) = 1");
    }

    private static void sortedRows() {
        part = "terms";
        holds("those of equal keys by their numbers", ROOMY, keys("left", 4, 4, 3, 4, 3), "prepare()",
                "sorted(left, 0, 2) = 2; sorted(left, 1, 2) = 4; sorted(left, 2, 2) = 0; sorted(left, 3, 2) = 1",
                "sorted(left, 4, 2) = 3");
        holds("those of equal keys by their numbers, also if some came since the last prepare()", ROOMY, keys("right", 4, 6),
                "prepare()", keys("right", 4, 6, 4), "prepare()",
                "sorted(right, 0, 2) = 0; sorted(right, 1, 2) = 2; sorted(right, 2, 2) = 4; sorted(right, 3, 2) = 1",
                "sorted(right, 4, 2) = 3");
        holds("rows that came falling", ROOMY, keys("left", 3, 2, 1, 0), "prepare()",
                "sorted(left, 0, 2) = 3; sorted(left, 3, 2) = 0");
    }

    private static void pairsInOrder() {
        part = "terms";
        holds("of all such, by keys, then left numbers, then right ones", ROOMY,
                keys("left", 8, 2, 8), keys("right", 8, 2, 8, 2), "prepare()",
                "rest() = 2:1/1 2:1/3 8:0/0 8:0/2 8:2/0 8:2/2");
        holds("the KIND is 0 at first", ROOMY, "about(4) = 0", MIXED, "rest() = 1:1/3 1:4/3 5:0/1 5:0/4 5:3/1 5:3/4");
        holds("kind 0 has no row without a partner", ROOMY, keys("left", 1), keys("right", 2), "prepare(); next() = false");
        holds("kind 1 has each left row without a right one", ROOMY, MIXED, "kind(1)",
                "rest() = 1:1/3 1:4/3 3:2/-1 5:0/1 5:0/4 5:3/1 5:3/4");
        holds("kind 2 has each right row without a left one", ROOMY, MIXED, "kind(2)",
                "rest() = 1:1/3 1:4/3 2:-1/2 5:0/1 5:0/4 5:3/1 5:3/4 7:-1/0 7:-1/5");
        holds("kind 3 has both", ROOMY, MIXED, "kind(3)",
                "rest() = 1:1/3 1:4/3 2:-1/2 3:2/-1 5:0/1 5:0/4 5:3/1 5:3/4 7:-1/0 7:-1/5");
        holds("rows without a partner at their keys' places, by their numbers: before, between and behind", ROOMY,
                keys("left", 9, 0, 5, 9, 0, 4), keys("right", 5), "kind(1); prepare()",
                "rest() = 0:1/-1 0:4/-1 4:5/-1 5:2/0 9:0/-1 9:3/-1");
        holds("no row has a partner", ROOMY, keys("left", 3, 1), keys("right", 2, 4), "kind(3); prepare()",
                "count(0) = 0; rest() = 1:1/-1 2:-1/0 3:0/-1 4:-1/1");
    }

    private static void withoutRows() {
        part = "terms";
        String nothing = "count(0) = 0; groups() = 0; next() = false; mark() = 0; " + NO_PAIR;
        holds("no rows at all", ROOMY, "kind(3); prepare()", nothing,
                "count(3) = 0; seek(MIN) = false; seek(MAX) = false; about(0) = 0; rows(left, lone) = 0; rows(right, partner) = 0");
        holds("a left table without rows", ROOMY, keys("right", 4, 4), "prepare()", nothing,
                "count(1) = 0; count(2) = 2; count(3) = 2",
                "rows(left, lone) = 0; rows(left, partner) = 0; rows(right, lone) = 2; kind(2); rest() = 4:-1/0 4:-1/1");
        holds("a right table without rows", ROOMY, keys("left", 4, 4), "prepare()", nothing,
                "count(2) = 0; count(1) = 2; count(3) = 2",
                "rows(right, lone) = 0; rows(right, partner) = 0; rows(left, lone) = 2; kind(1); rest() = 4:0/-1 4:1/-1");
        holds("tables that no row fits into", "JoinDesk(0, 0, 0)", "prepare()", nothing, "seek(0) = false; back() = 0; rewind()");
    }

    private static void cursorEnds() {
        part = "terms";
        holds("before the first pair the cursor is at none", ROOMY, MIXED, NO_PAIR, "mark() = 0; next() = true");
        holds("behind the last pair the cursor is at none", ROOMY, MIXED, "6 * next() = true; next() = false", NO_PAIR,
                "mark() = 6");
        holds("behind the last pair the cursor stays", ROOMY, MIXED, "6 * next() = true; 20 * next() = false; mark() = 6", NO_PAIR);
        holds("behind the last pair the cursor stays, lone rows or not", ROOMY, MIXED,
                "kind(3); 10 * next() = true; 9 * next() = false", "mark() = 10", NO_PAIR);
        holds("one pair alone", ROOMY, keys("left", 6), keys("right", 6), "prepare()", NO_PAIR, "next() = true; here() = 6 1 1 0 0",
                "next() = false", NO_PAIR);
    }

    private static void cellsOfNext() {
        part = "terms, next() reads";
        holds("the next left and right row, then of each side, if equal, the first once more and up to the first other one", ROOMY,
                keys("left", 1, 2), keys("right", 1, 3), "prepare(); reads(1) = 6");
        holds("of a side that is alone: no key of the other one", ROOMY, keys("left", 4, 4, 5),
                "kind(1); prepare(); reads(4) = 3 3 4 4");
        holds("of a side that is alone, the right one", ROOMY, keys("right", 4, 4, 5), "kind(2); prepare(); reads(4) = 3 3 4 4");
        holds("of the side whose key is the lesser one alone", ROOMY, keys("left", 1), keys("right", 2, 2),
                "kind(3); prepare(); reads(4) = 3 5 5 5");
        holds("of the side whose key is the lesser one alone, the right one", ROOMY, keys("left", 2, 2), keys("right", 1),
                "kind(3); prepare(); reads(4) = 3 5 5 5");
        holds("none of a row that is not there", ROOMY, keys("left", 1), keys("right", 1), "prepare(); reads(2) = 4 4");
        holds("none of a row that is not there, without rows", ROOMY, "kind(3); prepare(); reads(3) = 0 0 0");
        holds("nothing while the keys are not new", ROOMY, keys("left", 1, 1, 1), keys("right", 1, 1),
                "prepare(); reads(7) = 7 7 7 7 7 7 7");
        holds("and so on till there is a pair of the KIND", ROOMY, keys("left", 1, 2, 3), keys("right", 3), "prepare()",
                "reads(1) = 12; kind(2); reads(1) = 12; kind(1); reads(3) = 4 8 12; kind(3); reads(3) = 4 8 12");
        holds("and so on to the end, if there is none", ROOMY, MIXED, "reads(8) = 7 7 22 22 22 22 24 24");
        holds("and so on, with lone rows on both sides", ROOMY, MIXED, "kind(3); reads(11) = 7 7 11 15 22 22 22 22 24 24 24");
    }

    private static void cellsAreCounted() {
        part = "terms, CELLS READ";
        holds("counted since prepare()", ROOMY, MIXED, "next(); about(0) = 7; prepare(); about(0) = 0; next(); about(0) = 7");
        holds("counted since rewind()", ROOMY, MIXED, "next(); about(0) = 7; rewind(); about(0) = 0; next(); about(0) = 7");
        holds("counted since kind()", ROOMY, MIXED, "next(); about(0) = 7; kind(0); about(0) = 0; next(); about(0) = 7");
        holds("counted since kind(), also when not PREPARED", ROOMY, MIXED,
                "next(); add(left, 1, 1); about(0) = 7; kind(2); about(0) = 0");
        holds("none by a refused call", ROOMY, MIXED, "add(left, 1, 1); next() = ISE; seek(1) = ISE; about(0) = 0");
        holds("not counted anew by a refused call", ROOMY, MIXED, "next(); kind(4) = IAE; back() = ISE; about(0) = 7",
                "add(left, 1, 1); rewind() = ISE; next() = ISE; seek(1) = ISE; about(0) = 7");
        holds("of next() and seek() alone", ROOMY, MIXED,
                "mark(); back(); pair(0); count(3); rows(left, lone); groups(); group(0, 2)", "sorted(left, 0, 0); about(0) = 0");
        holds("of next() and seek() together", ROOMY, MIXED, "next(); seek(MIN); about(0) = 13; seek(MIN); about(0) = 19");
        holds("not given back by back()", ROOMY, MIXED, "mark(); next(); back(); about(0) = 7; next(); about(0) = 14");
        holds("8 times as many as there are rows, and 8 for each call, at most: a single call over lone rows", ROOMY,
                evenAndOdd(100), "prepare(); next() = false; about(0) = 796");
    }

    /** So many left rows of even keys and right ones of odd keys. */
    private static String evenAndOdd(int rows) {
        StringBuilder steps = new StringBuilder();
        for (int n = 0; n < rows; n++) {
            steps.append(keys("left", 2 * n)).append(keys("right", 2 * n + 1));
        }
        return steps.toString();
    }

    private static void cellsOfSeek() {
        part = "terms, seek() reads";
        holds("by halves: of 400 rows, to the first", ROOMY, rising("left", 400), "prepare(); seek(MIN); about(0) = 9");
        holds("by halves: of 400 rows, to behind the last", ROOMY, rising("right", 400), "prepare(); seek(MAX); about(0) = 8");
        holds("by halves: of one row", ROOMY, keys("left", 5),
                "prepare(); seek(5); about(0) = 1; seek(6); about(0) = 2; seek(4); about(0) = 3");
        holds("by halves: of two rows", ROOMY, keys("left", 5, 6), "prepare()",
                "seek(5); about(0) = 2; seek(6); about(0) = 4; seek(7); about(0) = 5");
        holds("by halves: of no row", ROOMY, "prepare(); seek(0); about(0) = 0");
        holds("by halves: of both tables", ROOMY, keys("left", 1, 2, 3, 4, 5), keys("right", 10, 20, 30), "prepare()",
                "seek(0); about(0) = 5; seek(4); about(0) = 10; seek(99); about(0) = 14; seek(5); about(0) = 19");
        holds("by halves, though the keys are equal", ROOMY, keys("left", 3, 3, 3, 3),
                "prepare(); seek(3); about(0) = 3; seek(4); about(0) = 5");
        holds("80 at most, of tables as full as 512 calls make them", ROOMY, rising("left", 400), rising("right", 100), "prepare()",
                "seek(MIN); about(0) = 16; rewind(); seek(MAX); about(0) = 14; rewind(); seek(99); about(0) = 16");
    }

    private static void firstNamed() {
        part = "terms, of several exceptions the first";
        holds("count() of no kind when not PREPARED", ROOMY, "count(4) = IAE; count(-1) = IAE; count(3) = ISE");
        holds("group() of a wrong what when not PREPARED", ROOMY, "group(0, 5) = IAE; group(0, -1) = IAE; group(0, 4) = ISE");
        holds("group() below 0 when not PREPARED", ROOMY, "group(-1, 0) = IAE; group(MIN, 0) = IAE; group(0, 0) = ISE");
        holds("group() of a wrong what when not told", ROOMY, MIXED, "group(0, 5) = IAE; group(-1, 0) = IAE; group(0, 0) = ISE");
        holds("sorted() of no such row when not PREPARED", ROOMY, keys("left", 1),
                "sorted(left, 1, 0) = IAE; sorted(left, -1, 0) = IAE; sorted(right, 0, 0) = IAE; sorted(left, 0, 0) = ISE");
        holds("sorted() of a wrong what when not PREPARED", ROOMY, keys("left", 1),
                "sorted(left, 0, 3) = IAE; sorted(left, 0, -1) = IAE; sorted(left, 0, 2) = ISE");
        holds("groups() without room when not PREPARED", "JoinDesk(2, 2, 0)", keys("left", 1), keys("right", 1),
                "groups() = ISE; prepare(); groups() = UOE; add(left, 1, 1); groups() = ISE");
    }

    private static void newObject() {
        part = "promise 1";
        String[] none = {"MIN", "-401", "-1", "0"};
        for (String room : none) {
            holds("left: " + room + " is brought to 0", "JoinDesk(" + room + ", 1, 1)",
                    "add(left, 1, 1) = ISE; add(right, 1, 1) = 0");
            holds("right: " + room + " is brought to 0", "JoinDesk(1, " + room + ", 1)",
                    "add(right, 1, 1) = ISE; add(left, 1, 1) = 0");
            holds("groups: " + room + " is brought to 0", "JoinDesk(1, 1, " + room + ")", "prepare(); groups() = 0",
                    keys("left", 1), keys("right", 1), "prepare(); groups() = UOE; count(0) = 1");
        }
        String[] most = {"400", "401", "65536", "MAX"};
        for (String room : most) {
            holds("left: " + room + " is brought to 400", "JoinDesk(" + room + ", 0, 0)", rising("left", 400),
                    "add(left, 1, 1) = ISE; about(1) = 400");
            holds("right: " + room + " is brought to 400", "JoinDesk(0, " + room + ", 0)", rising("right", 400),
                    "add(right, 1, 1) = ISE; about(2) = 400");
            // 512 calls make 255 groups at most, so that a room of more can't be told apart.
            holds("groups: " + room + " has room for as many as 512 calls make", "JoinDesk(400, 400, " + room + ")",
                    rising("left", 255), rising("right", 255), "prepare(); groups() = 255");
        }
        holds("left: 399 stays", "JoinDesk(399, 400, 0)", rising("left", 399), "add(left, 1, 1) = ISE; add(right, 1, 1) = 0");
        holds("right: 399 stays", "JoinDesk(400, 399, 0)", rising("right", 399), "add(right, 1, 1) = ISE; add(left, 1, 1) = 0");
        holds("left: 1 stays", "JoinDesk(1, 9, 9)", rising("left", 1), "add(left, 1, 1) = ISE");
        holds("right: 1 stays", "JoinDesk(9, 1, 9)", rising("right", 1), "add(right, 1, 1) = ISE");
        holds("groups: 254 stays", "JoinDesk(400, 400, 254)", rising("left", 255), rising("right", 255),
                "prepare(); groups() = UOE");
        holds("groups: 1 stays", "JoinDesk(9, 9, 1)", rising("left", 1), rising("right", 2), "prepare(); groups() = 1",
                "add(left, 1, 1); prepare(); groups() = UOE");
        holds("empty tables", ROOMY, "about(0) = 0; about(1) = 0; about(2) = 0; about(3) = 0; about(4) = 0");
    }

    private static void add() {
        part = "promise 2";
        holds("there is no room: left", "JoinDesk(2, 2, 0)", rising("left", 2),
                "3 * add(left, 1, 1) = ISE; about(1) = 2; add(right, 1, 1) = 0");
        holds("there is no room: right", "JoinDesk(2, 2, 0)", rising("right", 2),
                "3 * add(right, 1, 1) = ISE; about(2) = 2; add(left, 1, 1) = 0");
        holds("the last row that there is room for", "JoinDesk(400, 0, 0)", rising("left", 399),
                "add(left, 399, 1) = 399; add(left, 400, 1) = ISE");
        holds("it is not PREPARED then", ROOMY, MIXED, "next(); mark(); groups(); add(left, 1, 1) = 5; about(3) = 0",
                "next() = ISE; mark() = ISE; back() = ISE; seek(1) = ISE; rewind() = ISE; count(0) = ISE; rows(left, lone) = ISE",
                "groups() = ISE; group(0, 0) = ISE; sorted(left, 0, 0) = ISE", NO_PAIR);
        holds("a row of the same key and value is one more row", ROOMY, "add(left, 1, 1) = 0; add(left, 1, 1) = 1; about(1) = 2");
    }

    private static void prepare() {
        part = "promise 3";
        holds("without rows", ROOMY, "prepare(); about(3) = 1; next() = false");
        holds("twice", ROOMY, MIXED, "next(); prepare(); about(3) = 1", NO_PAIR, "rest() = 1:1/3 1:4/3 5:0/1 5:0/4 5:3/1 5:3/4");
        holds("the cursor is before the first pair, from behind the last one", ROOMY, MIXED,
                "rest(); prepare(); mark() = 0; next() = true; pair(0) = 1");
        holds("with a row before all others", ROOMY, MIXED, keys("left", "MIN"), keys("right", "MIN"),
                "prepare(); next(); here() = -2147483648 1 1 5 6");
        holds("the KIND stays", ROOMY, "kind(2)", MIXED, "about(4) = 2; next(); next(); next(); here() = 2 0 20 -1 2");
        holds("full tables", "JoinDesk(3, 2, 0)", keys("left", 2, 1, 2), keys("right", 2, 1),
                "prepare(); rest() = 1:1/1 2:0/0 2:2/0");
    }

    private static void kind() {
        part = "promise 4";
        for (String bad : new String[] {"-1", "4", "5", "MIN", "MAX"}) {
            holds("it is not 0 .. 3: " + bad, ROOMY, MIXED, "kind(1); next(); mark(); kind(" + bad + ") = IAE",
                    "about(4) = 1; here() = 1 10 100 1 3; back() = 1");
            holds("it is not 0 .. 3, nor PREPARED: " + bad, ROOMY, "kind(" + bad + ") = IAE; about(4) = 0");
        }
        for (int kind = 0; kind < 4; kind++) {
            holds("it is 0 .. 3: " + kind, ROOMY, "kind(" + kind + "); about(4) = " + kind + "; about(3) = 0");
        }
        holds("the cursor before the first pair, from behind the last one", ROOMY, MIXED, "rest(); kind(1)", NO_PAIR,
                "mark() = 0; next() = true");
        holds("the cursor before the first pair, though the KIND is the same", ROOMY, MIXED, "next(); kind(0)", NO_PAIR,
                "mark() = 0");
        holds("another KIND before any row", ROOMY, "kind(1); add(left, 4, 4); prepare(); rest() = 4:0/-1");
    }

    private static void next() {
        part = "promise 5";
        holds("not PREPARED: new", ROOMY, "next() = ISE");
        holds("not PREPARED: rows came", ROOMY, MIXED, "next(); add(right, 9, 9); next() = ISE; next() = ISE");
        holds("not PREPARED: cleared", ROOMY, MIXED, "clear(); next() = ISE");
        holds("from before the first pair to the last one and behind it", ROOMY, keys("left", 1), keys("right", 1, 1), "prepare()",
                "next() = true; next() = true; next() = false; next() = false");
        holds("no pair of the KIND", ROOMY, keys("left", 1), "kind(2); prepare(); next() = false; mark() = 0");
    }

    private static void pair() {
        part = "promise 6";
        for (String bad : new String[] {"-1", "5", "6", "MIN", "MAX"}) {
            holds("what is none: " + bad, ROOMY, MIXED, "next(); pair(" + bad + ") = IAE; here() = 1 10 100 1 3");
            holds("what is none, and it is not PREPARED: " + bad, ROOMY, "pair(" + bad + ") = IAE");
        }
        holds("0, NONE of a right row that is not there", ROOMY,
                "add(left, 4, 44); kind(1); prepare(); next(); here() = 4 44 0 0 -1");
        holds("0, NONE of a left row that is not there", ROOMY,
                "add(right, 4, 44); kind(2); prepare(); next(); here() = 4 0 44 -1 0");
        holds("0 and NONE before the first pair", ROOMY, MIXED, NO_PAIR);
        holds("0 and NONE behind the last pair", ROOMY, MIXED, "rest()", NO_PAIR);
        holds("0 and NONE after a seek()", ROOMY, MIXED, "next(); seek(1) = true", NO_PAIR);
        holds("0 and NONE after a rewind()", ROOMY, MIXED, "next(); rewind()", NO_PAIR);
        holds("0 and NONE when not PREPARED: new", ROOMY, NO_PAIR);
        holds("0 and NONE when not PREPARED: a row came", ROOMY, MIXED, "next(); add(left, 9, 9)", NO_PAIR);
        holds("0 and NONE when not PREPARED: cleared", ROOMY, MIXED, "next(); clear()", NO_PAIR);
        holds("a key and values that are 0 themselves", ROOMY,
                "add(left, 0, 0); add(right, 0, 0); prepare(); next(); here() = 0 0 0 0 0");
    }

    private static void mark() {
        part = "promise 7";
        holds("not PREPARED: new", ROOMY, "mark() = ISE");
        holds("not PREPARED: a row came", ROOMY, MIXED, "add(left, 9, 9); mark() = ISE");
        holds("not PREPARED: cleared", ROOMY, MIXED, "clear(); mark() = ISE");
        holds("how many are before it: none before the first", ROOMY, MIXED, "mark() = 0");
        holds("with the one it is at", ROOMY, MIXED, "next(); mark() = 1; next(); mark() = 2; next(); mark() = 3");
        holds("behind the last one: all", ROOMY, MIXED, "6 * next(); mark() = 6; next(); mark() = 6; next(); mark() = 6");
        holds("between pairs: those before", ROOMY, MIXED, "seek(5); mark() = 2; seek(6); mark() = 6; seek(MIN); mark() = 0");
        holds("lone rows count by the KIND", ROOMY, MIXED,
                "kind(3); seek(5); mark() = 4; kind(2); seek(5); mark() = 3; kind(1); seek(5); mark() = 3");
        holds("a new mark takes the place of the old one", ROOMY, MIXED,
                "next(); mark() = 1; next(); mark() = 2; rewind(); back() = 2");
    }

    private static void back() {
        part = "promise 8";
        holds("not PREPARED: new", ROOMY, "back() = ISE");
        holds("not PREPARED: a row came", ROOMY, MIXED, "mark(); add(left, 9, 9); back() = ISE");
        holds("not PREPARED: cleared", ROOMY, MIXED, "mark(); clear(); back() = ISE");
        holds("no mark since prepare(): never one", ROOMY, MIXED, "next(); back() = ISE; here() = 1 10 100 1 3");
        holds("no mark since prepare(): one before", ROOMY, MIXED, "mark(); prepare(); back() = ISE");
        holds("no mark since prepare(): one before, and a row came", ROOMY, MIXED,
                "mark(); add(left, 9, 9); prepare(); back() = ISE");
        holds("no mark since prepare(): one before, and it was cleared", ROOMY, MIXED, "mark(); clear(); prepare(); back() = ISE");
        holds("no mark since kind()", ROOMY, MIXED, "mark(); kind(1); back() = ISE");
        holds("no mark since kind(), though the KIND is the same", ROOMY, MIXED, "mark(); kind(0); back() = ISE");
        holds("a mark since kind(), though kind() was refused", ROOMY, MIXED, "next(); mark(); kind(4) = IAE; next(); back() = 1");
        holds("a mark, though a row was refused", "JoinDesk(1, 1, 1)", keys("left", 1), keys("right", 1), "prepare(); mark()",
                "add(left, 1, 1) = ISE; back() = 0");
        holds("no mark since prepare(): a refused mark() is none", ROOMY, MIXED,
                "add(left, 9, 9); mark() = ISE; prepare(); back() = ISE");
        holds("the mark stays", ROOMY, MIXED,
                "3 * next(); mark() = 3; next(); back() = 3; here() = 5 50 500 0 1; rest(); back() = 3; here() = 5 50 500 0 1",
                "back() = 3");
        holds("the mark stays through rewind() and seek()", ROOMY, MIXED,
                "next(); mark() = 1; rewind(); back() = 1; seek(MAX); back() = 1; here() = 1 10 100 1 3");
        holds("to before the first pair", ROOMY, MIXED, "mark(); rest(); back() = 0", NO_PAIR, "next() = true; mark() = 1");
        holds("to behind the last pair", ROOMY, MIXED, "rest(); mark(); rewind(); back() = 6", NO_PAIR, "next() = false");
        holds("to between pairs", ROOMY, MIXED, "seek(4); mark(); rest(); back() = 2", NO_PAIR, "rest() = 5:0/1 5:0/4 5:3/1 5:3/4");
        holds("to the midst of rows of one key", ROOMY, MIXED,
                "4 * next(); mark() = 4; rewind(); back() = 4; rest() = 5:3/1 5:3/4");
        holds("forwards, too", ROOMY, MIXED, "5 * next(); mark() = 5; rewind(); next(); back() = 5; here() = 5 51 500 3 1");
    }

    private static void seek() {
        part = "promise 9";
        holds("not PREPARED: new", ROOMY, "seek(0) = ISE");
        holds("not PREPARED: a row came", ROOMY, MIXED, "add(left, 9, 9); seek(0) = ISE");
        holds("not PREPARED: cleared", ROOMY, MIXED, "clear(); seek(0) = ISE");
        holds("the key itself", ROOMY, MIXED, "seek(5) = true", NO_PAIR, "next() = true; here() = 5 50 500 0 1");
        holds("a key between", ROOMY, MIXED, "seek(2) = true; next(); pair(0) = 5; seek(4) = true; next(); pair(0) = 5");
        holds("below all", ROOMY, MIXED, "rest(); seek(MIN) = true; mark() = 0; next(); here() = 1 10 100 1 3");
        holds("above all", ROOMY, MIXED, "seek(MAX) = false; mark() = 6", NO_PAIR, "next() = false");
        holds("one above the last key", ROOMY, MIXED, "seek(6) = false; mark() = 6; next() = false");
        holds("the greatest int, which is a key", ROOMY, keys("left", 1, "MAX"), keys("right", "MAX"),
                "prepare(); seek(MAX) = true; next(); pair(0) = 2147483647");
        holds("the least int, which is a key", ROOMY, keys("left", 1, "MIN"), keys("right", "MIN"),
                "prepare(); seek(MIN) = true; next(); pair(0) = -2147483648");
        holds("whether there is one of the KIND: lone left rows alone", ROOMY, keys("left", 1, 9), keys("right", 1), "prepare()",
                "seek(2) = false; kind(2); seek(2) = false; kind(1); seek(2) = true; next(); pair(0) = 9; kind(3)",
                "seek(2) = true; next(); pair(0) = 9");
        holds("whether there is one of the KIND: lone right rows alone", ROOMY, keys("right", 1, 9), keys("left", 1), "prepare()",
                "seek(2) = false; kind(1); seek(2) = false; kind(2); seek(2) = true; next(); pair(0) = 9; kind(3)",
                "seek(2) = true; next(); pair(0) = 9");
        holds("the first row of many of that key", ROOMY, keys("left", 3, 3, 3, 2), keys("right", 3, 3),
                "prepare(); seek(3) = true; next(); here() = 3 1 1 0 0");
        holds("backwards, from behind the last one", ROOMY, MIXED, "rest(); seek(5) = true; rest() = 5:0/1 5:0/4 5:3/1 5:3/4");
        holds("no rows", ROOMY, "prepare(); seek(0) = false; next() = false");
        holds("no wrap-around of (low + high) / 2 or of keys", ROOMY, keys("left", "MIN", "MAX"), keys("right", "MAX", "MIN"),
                "prepare()",
                "seek(-2147483647) = true; mark() = 1; seek(2147483646) = true; mark() = 1; next(); pair(0) = 2147483647");
    }

    private static void rewind() {
        part = "promise 10";
        holds("not PREPARED: new", ROOMY, "rewind() = ISE");
        holds("not PREPARED: a row came", ROOMY, MIXED, "add(left, 9, 9); rewind() = ISE");
        holds("not PREPARED: cleared", ROOMY, MIXED, "clear(); rewind() = ISE");
        holds("from before the first pair", ROOMY, MIXED, "rewind(); mark() = 0; next() = true; pair(0) = 1");
        holds("from behind the last one", ROOMY, MIXED, "rest(); rewind()", NO_PAIR,
                "mark() = 0; next() = true; here() = 1 10 100 1 3");
        holds("from between pairs", ROOMY, MIXED, "seek(4); rewind(); mark() = 0; next() = true; pair(0) = 1");
        holds("by the same KIND", ROOMY, MIXED, "kind(3); rest(); rewind(); about(4) = 3; 10 * next() = true; next() = false");
        holds("without rows", ROOMY, "prepare(); rewind(); next() = false");
    }

    private static void count() {
        part = "promise 11";
        for (String bad : new String[] {"-1", "4", "5", "MIN", "MAX"}) {
            holds("no kind: " + bad, ROOMY, MIXED, "next(); count(" + bad + ") = IAE; count(0) = 6; mark() = 1");
        }
        holds("not PREPARED: new", ROOMY, "count(0) = ISE; count(1) = ISE; count(2) = ISE; count(3) = ISE");
        holds("not PREPARED: a row came", ROOMY, MIXED, "add(left, 9, 9); count(0) = ISE");
        holds("not PREPARED: cleared", ROOMY, MIXED, "clear(); count(0) = ISE");
        holds("by a kind, not by the KIND", ROOMY, MIXED,
                "kind(3); count(0) = 6; count(1) = 7; count(2) = 9; count(3) = 10; about(4) = 3");
        holds("as many as 512 calls can make", ROOMY, values("left", ones(255)), values("right", ones(255)),
                "prepare(); count(0) = 65025");
        holds("without rows", ROOMY, "prepare(); count(0) = 0; count(1) = 0; count(2) = 0; count(3) = 0");
    }

    private static Object[] ones(int many) {
        List<Object> all = new ArrayList<>();
        for (int n = 0; n < many; n++) {
            all.add(1);
        }
        return all.toArray();
    }

    private static void rows() {
        part = "promise 12";
        holds("not PREPARED: new", ROOMY,
                "rows(left, partner) = ISE; rows(left, lone) = ISE; rows(right, partner) = ISE; rows(right, lone) = ISE");
        holds("not PREPARED: a row came", ROOMY, MIXED, "add(left, 9, 9); rows(left, lone) = ISE");
        holds("not PREPARED: cleared", ROOMY, MIXED, "clear(); rows(left, lone) = ISE");
        holds("with a partner or none", ROOMY, MIXED,
                "rows(left, partner) = 4; rows(left, lone) = 1; rows(right, partner) = 3; rows(right, lone) = 3");
        holds("whatever the KIND is", ROOMY, MIXED,
                "kind(3); rows(left, partner) = 4; rows(left, lone) = 1; rows(right, partner) = 3; rows(right, lone) = 3");
        holds("a row with many partners is one row", ROOMY, keys("left", 1), keys("right", 1, 1, 1),
                "prepare(); rows(left, partner) = 1; rows(right, partner) = 3");
        holds("none with a partner", ROOMY, keys("left", 1, 1), keys("right", 2), "prepare()",
                "rows(left, partner) = 0; rows(left, lone) = 2; rows(right, partner) = 0; rows(right, lone) = 1");
    }

    private static void groups() {
        part = "promise 13";
        holds("not PREPARED: new", ROOMY, "groups() = ISE");
        holds("not PREPARED: a row came", ROOMY, MIXED, "groups(); add(left, 9, 9); groups() = ISE");
        holds("not PREPARED: cleared", ROOMY, MIXED, "groups(); clear(); groups() = ISE");
        holds("just as many as there is room for", "JoinDesk(9, 9, 3)", rising("left", 3), rising("right", 3),
                "prepare(); groups() = 3; group(2, 0) = 2");
        holds("one more than there is room for", "JoinDesk(9, 9, 2)", rising("left", 3), rising("right", 3),
                "prepare(); 2 * groups() = UOE");
        holds("more than there is room for: none is told", "JoinDesk(9, 9, 2)", rising("left", 3), rising("right", 3),
                "prepare(); groups() = UOE; group(0, 0) = ISE");
        holds("no room, and no group", "JoinDesk(9, 9, 0)", keys("left", 1), keys("right", 2),
                "prepare(); groups() = 0; group(0, 0) = IAE");
        holds("no room for one", "JoinDesk(9, 9, 0)", keys("left", 1), keys("right", 1), "prepare(); groups() = UOE");
        holds("one group takes one room, however many pairs it has", "JoinDesk(9, 9, 1)", keys("left", 1, 1),
                keys("right", 1, 1, 1), "prepare(); groups() = 1");
        holds("keys of lone rows are no groups and take no room", "JoinDesk(9, 9, 1)", keys("left", 1, 2, 3), keys("right", 2, 4),
                "kind(3); prepare(); groups() = 1; group(0, 0) = 2");
        holds("rising, with the outermost keys", ROOMY, keys("left", "MAX", 0, "MIN"), keys("right", 0, "MAX", "MIN"),
                "prepare(); groups() = 3", "group(0, 0) = -2147483648; group(1, 0) = 0; group(2, 0) = 2147483647");
        holds("told twice", ROOMY, MIXED, "2 * groups() = 2; group(0, 0) = 1; group(1, 0) = 5; group(2, 0) = IAE");
        holds("behind more lone rows than the other table has rows", ROOMY, keys("left", 1, 2, 3), keys("right", 3),
                "prepare(); groups() = 1", "group(0, 0) = 3");
        holds("room again after clear()", "JoinDesk(9, 9, 1)", rising("left", 2), rising("right", 2),
                "prepare(); groups() = UOE; clear()", rising("left", 1), rising("right", 1), "prepare(); groups() = 1");
    }

    private static void group() {
        part = "promise 14";
        for (String bad : WRONG_BELOW) {
            holds("there is no such group: " + bad, ROOMY, MIXED, "groups(); group(" + bad + ", 0) = IAE");
            holds("there is no such group, not told: " + bad, ROOMY, MIXED, "group(" + bad + ", 0) = IAE");
            holds("what is none: " + bad, ROOMY, MIXED, "groups(); group(0, " + bad + ") = IAE");
        }
        for (String bad : new String[] {"2", "3", "399", "400", "MAX"}) {
            holds("there is no such group: " + bad, ROOMY, MIXED, "groups() = 2; group(" + bad + ", 0) = IAE; group(1, 0) = 5");
        }
        for (String bad : new String[] {"5", "6", "MAX"}) {
            holds("what is none: " + bad, ROOMY, MIXED, "groups(); group(0, " + bad + ") = IAE");
        }
        holds("there is no group at all", ROOMY, "prepare(); groups() = 0; group(0, 0) = IAE");
        holds("fewer groups than once before", ROOMY, MIXED, "groups() = 2; clear()", keys("left", 1), keys("right", 1),
                "prepare(); groups() = 1; group(0, 0) = 1; group(1, 0) = IAE");
        holds("not PREPARED: new", ROOMY, "group(0, 0) = ISE");
        holds("not PREPARED: a row came", ROOMY, MIXED, "groups(); group(0, 0) = 1; add(left, 9, 9); group(0, 0) = ISE");
        holds("not PREPARED: cleared", ROOMY, MIXED, "groups(); clear(); group(0, 0) = ISE");
        holds("not told", ROOMY, MIXED, "group(0, 0) = ISE; count(0); rest(); group(0, 0) = ISE");
        holds("not told since", ROOMY, MIXED, "groups(); prepare(); group(0, 0) = ISE; groups() = 2; group(0, 0) = 1");
        holds("not told since a row came", ROOMY, MIXED, "groups(); add(left, 9, 9); prepare(); group(0, 0) = ISE");
        holds("told, though calls were refused", ROOMY, MIXED,
                "groups(); group(0, 5) = IAE; group(2, 0) = IAE; kind(4) = IAE; group(1, 0) = 5");
        holds("told, whatever the cursor does", ROOMY, MIXED,
                "groups(); kind(3); next(); seek(9); rewind(); group(1, 0) = 5; group(1, 1) = 4");
        groupFacts();
    }

    private static void groupFacts() {
        holds("all of these of a mixed group", ROOMY, values("left", -3, 5), values("right", -10, 2, 1), "prepare(); groups() = 1",
                "group(0, 0) = 7; group(0, 1) = 6; group(0, 2) = -14; group(0, 3) = -50; group(0, 4) = 30");
        holds("one pair alone", ROOMY, values("left", -6), values("right", 7), "prepare(); groups()",
                "group(0, 1) = 1; group(0, 2) = -42; group(0, 3) = -42; group(0, 4) = -42");
        holds("products that are all 0", ROOMY, values("left", "MIN", "MAX"), values("right", 0), "prepare(); groups()",
                "group(0, 2) = 0; group(0, 3) = 0; group(0, 4) = 0");
        holds("products of negative values alone", ROOMY, values("left", -2, -3), values("right", -5, -7), "prepare(); groups()",
                "group(0, 2) = 60; group(0, 3) = 10; group(0, 4) = 21");
        holds("negative left values, positive right ones", ROOMY, values("left", -3, -2), values("right", 1, 5),
                "prepare(); groups()", "group(0, 2) = -30; group(0, 3) = -15; group(0, 4) = -2");
        holds("positive left values, right ones on both sides of 0", ROOMY, values("left", 2, 3), values("right", -5, 1),
                "prepare(); groups()", "group(0, 2) = -20; group(0, 3) = -15; group(0, 4) = 3");
        holds("each group by itself", ROOMY, "add(left, 1, 2); add(left, 1, 3); add(left, 2, 10)",
                "add(right, 1, 5); add(right, 2, 7); add(right, 2, 8); prepare(); groups() = 2",
                "group(0, 1) = 2; group(0, 2) = 25; group(0, 3) = 10; group(0, 4) = 15",
                "group(1, 1) = 2; group(1, 2) = 150; group(1, 3) = 70; group(1, 4) = 80");
        holds("a last key that is 0", ROOMY, "add(left, 0, 5); add(right, 0, 3); prepare(); groups() = 1",
                "group(0, 0) = 0; group(0, 1) = 1; group(0, 2) = 15; group(0, 3) = 15; group(0, 4) = 15");
        holds("products beyond an int", ROOMY, values("left", 65536), values("right", 65536, -65536), "prepare(); groups()",
                "group(0, 2) = 0; group(0, 3) = -4294967296; group(0, 4) = 4294967296");
        holds("the sum modulo 2^64: to the least long", ROOMY, values("left", "MIN", "MIN"), values("right", "MIN"),
                "prepare(); groups()",
                "group(0, 2) = -9223372036854775808; group(0, 3) = 4611686018427387904; group(0, 4) = 4611686018427387904");
        holds("the sum modulo 2^64: to 0", ROOMY, values("left", "MIN", "MIN"), values("right", "MIN", "MIN"),
                "prepare(); groups()", "group(0, 2) = 0; group(0, 3) = 4611686018427387904; group(0, 4) = 4611686018427387904");
        holds("the sum modulo 2^64: below the least long", ROOMY, values("left", "MIN", "MIN", "MIN"), values("right", "MAX"),
                "prepare(); groups()",
                "group(0, 2) = 4611686024869838848; group(0, 3) = -4611686016279904256; group(0, 4) = -4611686016279904256");
        holds("the least and the greatest of all ints", ROOMY, values("left", "MIN", "MAX"), values("right", "MIN", "MAX"),
                "prepare(); groups()", "group(0, 2) = 1; group(0, 3) = -4611686016279904256; group(0, 4) = 4611686018427387904");
    }

    private static void sorted() {
        part = "promise 15";
        for (String bad : WRONG_BELOW) {
            holds("there is no such row: " + bad, ROOMY, MIXED,
                    "sorted(left, " + bad + ", 0) = IAE; sorted(right, " + bad + ", 0) = IAE");
            holds("what is none: " + bad, ROOMY, MIXED, "sorted(left, 0, " + bad + ") = IAE; sorted(right, 0, " + bad + ") = IAE");
        }
        for (String bad : new String[] {"6", "7", "399", "400", "MAX"}) {
            holds("there is no such row: " + bad, ROOMY, MIXED,
                    "sorted(left, " + bad + ", 0) = IAE; sorted(right, " + bad + ", 0) = IAE");
        }
        for (String bad : new String[] {"3", "4", "MAX"}) {
            holds("what is none: " + bad, ROOMY, MIXED, "sorted(left, 0, " + bad + ") = IAE; sorted(right, 0, " + bad + ") = IAE");
        }
        holds("the last row of each table, and the one behind it", ROOMY, MIXED,
                "sorted(left, 4, 2) = 3; sorted(left, 5, 2) = IAE; sorted(right, 5, 2) = 5; sorted(right, 6, 2) = IAE");
        holds("no row at all", ROOMY, "prepare(); sorted(left, 0, 0) = IAE; sorted(right, 0, 0) = IAE");
        holds("the last row of a full table", "JoinDesk(400, 0, 0)", rising("left", 400),
                "prepare(); sorted(left, 399, 0) = 399; sorted(left, 400, 0) = IAE");
        holds("not PREPARED: never yet", ROOMY, keys("left", 1), keys("right", 1),
                "sorted(left, 0, 0) = ISE; sorted(right, 0, 0) = ISE");
        holds("not PREPARED: a row came", ROOMY, MIXED, "add(left, 9, 9); sorted(left, 0, 0) = ISE; sorted(right, 0, 0) = ISE");
        holds("no such row: cleared", ROOMY, MIXED, "clear(); sorted(left, 0, 0) = IAE");
    }

    private static void about() {
        part = "promise 16";
        for (String bad : new String[] {"-1", "5", "6", "MIN", "MAX"}) {
            holds("what is none: " + bad, ROOMY, MIXED, "about(" + bad + ") = IAE");
            holds("what is none, and it is not PREPARED: " + bad, ROOMY, "about(" + bad + ") = IAE");
        }
        holds("when not PREPARED", ROOMY, keys("left", 1), keys("right", 1, 1),
                "about(0) = 0; about(1) = 1; about(2) = 2; about(3) = 0; about(4) = 0");
        holds("when PREPARED", ROOMY, MIXED,
                "kind(2); next(); about(0) = 7; about(1) = 5; about(2) = 6; about(3) = 1; about(4) = 2");
    }

    private static void clear() {
        part = "promise 17";
        holds("a new object", ROOMY, "clear(); about(1) = 0; about(2) = 0; about(3) = 0; about(4) = 0; add(left, 1, 1) = 0");
        holds("no rows", ROOMY, MIXED,
                "clear(); about(1) = 0; about(2) = 0; prepare(); count(3) = 0; next() = false; groups() = 0");
        holds("no rows: numbers from 0 on", ROOMY, MIXED,
                "clear(); add(left, 2, 2) = 0; add(right, 2, 2) = 0; add(left, 1, 1) = 1; prepare(); rest() = 2:0/0");
        holds("no rows: a full table has room again", "JoinDesk(1, 1, 1)",
                "add(left, 1, 1); add(right, 1, 1); add(left, 1, 1) = ISE",
                "clear(); add(left, 1, 1) = 0; add(right, 1, 1) = 0; add(left, 1, 1) = ISE; add(right, 1, 1) = ISE");
        holds("no rows: as much room as before", "JoinDesk(250, 0, 0)", rising("left", 250), "clear()", rising("left", 250),
                "add(left, 1, 1) = ISE");
        holds("KIND 0", ROOMY, MIXED, "kind(3); clear(); about(4) = 0", MIXED, "rest() = 1:1/3 1:4/3 5:0/1 5:0/4 5:3/1 5:3/4");
        holds("not PREPARED", ROOMY, MIXED,
                "clear(); about(3) = 0; next() = ISE; mark() = ISE; back() = ISE; seek(0) = ISE; rewind() = ISE; groups() = ISE",
                "group(0, 0) = ISE", NO_PAIR);
        holds("twice", ROOMY, MIXED, "clear(); clear(); about(1) = 0; prepare(); next() = false");
    }

    public static void main(String[] args) {
        mostCalls();
        anyInts();
        preparedUntil();
        sortedRows();
        pairsInOrder();
        withoutRows();
        cursorEnds();
        cellsOfNext();
        cellsAreCounted();
        cellsOfSeek();
        firstNamed();
        newObject();
        add();
        prepare();
        kind();
        next();
        pair();
        mark();
        back();
        seek();
        rewind();
        count();
        rows();
        groups();
        group();
        sorted();
        about();
        clear();
        System.out.println(wrong == 0 ? "all " + tests + " boundary cases hold" : wrong + " boundary cases do not hold");
        if (wrong != 0) {
            System.exit(1);
        }
    }
}
