import java.util.ArrayList;
import java.util.LinkedHashMap;
import java.util.List;
import java.util.Map;
import java.util.TreeMap;

/**
 * "A call that throws changes nothing": in many states, each call that is refused there is made on one of two
 * desks with the same past; all later answers of the two must be the same.
 */
public final class RefusedCallTest {
    private static final String SMALL = "JoinDesk(6, 6, 1)";
    /** Left keys sorted: 1 1 3 5 5; right ones: 1 2 5 5 7. Two groups, and room for one more row a table. */
    private static final List<String> ROWS = List.of("add(left, 5, 50)", "add(left, 1, 10)", "add(left, 3, 30)", "add(left, 5, 51)",
            "add(left, 1, 11)", "add(right, 5, 500)", "add(right, 2, 20)", "add(right, 1, 100)", "add(right, 5, 501)",
            "add(right, 7, 70)");
    private static final String[] CHANCES = {"-1", "0", "1", "2", "3", "4", "5", "6", "MIN", "MAX"};
    private static final String[] MAY_REFUSE = {"add", "kind", "next", "pair", "mark", "back", "seek", "rewind", "count", "rows",
        "groups", "group", "sorted", "about"};

    private static int wrong = 0;
    private static int compared = 0;
    private static final Map<String, Integer> refusals = new TreeMap<>();

    private record State(String made, List<String> past) {
        Script reach() {
            Script script = new Script(made);
            past.forEach(script::ask);
            return script;
        }
    }

    private static State state(String made, boolean rows, String... more) {
        List<String> past = new ArrayList<>(rows ? ROWS : List.of());
        past.addAll(List.of(more));
        return new State(made, past);
    }

    private static Map<String, State> states() {
        Map<String, State> all = new LinkedHashMap<>();
        String full = "JoinDesk(5, 5, 2)";
        String roomy = "JoinDesk(9, 9, 9)";
        all.put("new", state(SMALL, false));
        all.put("new, without any room", state("JoinDesk(0, 0, 0)", false));
        all.put("empty and PREPARED", state("JoinDesk(0, 0, 0)", false, "prepare()"));
        all.put("never PREPARED", state(SMALL, true));
        all.put("another KIND, never PREPARED", state(SMALL, true, "kind(2)"));
        all.put("before the first pair", state(SMALL, true, "prepare()"));
        all.put("at a pair, no mark", state(SMALL, true, "prepare()", "next()", "next()"));
        all.put("at a pair, with a mark", state(SMALL, true, "prepare()", "next()", "mark()", "next()", "next()", "next()"));
        all.put("at a lone row, with a mark", state(SMALL, true, "kind(3)", "prepare()", "next()", "mark()", "next()", "next()"));
        all.put("between pairs, with a mark", state(SMALL, true, "prepare()", "seek(5)", "mark()", "rewind()", "seek(3)"));
        all.put("behind the last pair", state(SMALL, true, "prepare()", "seek(5)", "next()", "next()", "next()", "next()",
                "mark()", "next()"));
        all.put("full", state(full, true, "prepare()", "next()", "mark()", "next()"));
        all.put("full and told", state(full, true, "kind(1)", "prepare()", "groups()", "next()", "next()", "next()",
                "mark()", "next()"));
        all.put("full, not PREPARED", state(full, true, "kind(3)"));
        all.put("told, then a row came", state(roomy, true, "kind(3)", "prepare()", "groups()", "next()",
                "mark()", "add(left, 7, 7)"));
        all.put("told, then PREPARED again", state(roomy, true, "prepare()", "groups()", "next()",
                "mark()", "prepare()", "next()"));
        all.put("told, then the KIND changed", state(roomy, true, "prepare()", "groups()", "next()",
                "mark()", "kind(2)", "next()"));
        all.put("cleared", state(full, true, "kind(3)", "prepare()", "groups()", "next()", "mark()", "clear()"));
        return all;
    }

    /** All calls that may be refused somewhere. */
    private static List<String> calls() {
        List<String> all = new ArrayList<>(List.of("add(left, 1, 9)", "add(right, 1, 9)", "next()", "mark()", "back()", "rewind()",
                "groups()", "seek(MIN)", "seek(5)", "seek(MAX)"));
        for (String side : new String[] {"left", "right"}) {
            all.add("rows(" + side + ", partner)");
            all.add("rows(" + side + ", lone)");
        }
        for (String a : CHANCES) {
            for (String name : new String[] {"kind", "pair", "count", "about"}) {
                all.add(name + "(" + a + ")");
            }
            for (String b : CHANCES) {
                all.add("group(" + a + ", " + b + ")");
                all.add("sorted(left, " + a + ", " + b + ")");
                all.add("sorted(right, " + a + ", " + b + ")");
            }
        }
        return all;
    }

    /** What can be seen without moving anything. */
    private static List<String> look() {
        List<String> all = new ArrayList<>();
        for (int what = 0; what < 5; what++) {
            all.add("about(" + what + ")");
            all.add("pair(" + what + ")");
            all.add("group(0, " + what + ")");
            all.add("group(1, " + what + ")");
        }
        for (int i = 0; i < 6; i++) {
            for (int what = 0; what < 3; what++) {
                all.add("sorted(left, " + i + ", " + what + ")");
                all.add("sorted(right, " + i + ", " + what + ")");
            }
        }
        return all;
    }

    private static List<String> cursorWalk() {
        return List.of("next()", "here()", "about(0)", "mark()", "rest()", "about(0)", "mark()");
    }

    private static List<String> backWalk() {
        return List.of("back()", "here()", "about(0)", "next()", "here()", "about(0)", "back()", "rest()", "about(0)");
    }

    private static List<String> freshWalk() {
        return List.of("groups()", "group(1, 2)", "count(0)", "count(1)", "count(2)", "count(3)", "rows(left, lone)",
                "rows(right, lone)", "add(left, 2, 8)", "add(left, 2, 8)", "add(right, 3, 8)", "add(right, 3, 8)", "about(4)",
                "prepare()", "back()", "rest()", "about(0)", "groups()", "group(0, 2)");
    }

    private static List<String> answers(Script script, List<String> walk) {
        List<String> all = new ArrayList<>();
        for (String call : walk) {
            all.add(call + " = " + script.ask(call));
        }
        return all;
    }

    private static boolean isRefusal(String answer) {
        return answer.equals("IAE") || answer.equals("ISE") || answer.equals("UOE");
    }

    private static void compare(String name, State state, String call, List<String> walk) {
        Script touched = state.reach();
        String answer = touched.ask(call);
        if (!isRefusal(answer)) {
            return;
        }
        refusals.merge(call.substring(0, call.indexOf('(')) + " " + answer, 1, Integer::sum);
        compared++;
        List<String> got = answers(touched, walk);
        List<String> want = answers(state.reach(), walk);
        for (int i = 0; i < want.size(); i++) {
            if (!got.get(i).equals(want.get(i))) {
                wrong++;
                System.out.println(name + ": " + call + " was refused (" + answer + "), yet then " + got.get(i)
                        + ", due is " + want.get(i));
                return;
            }
        }
    }

    private static void need(boolean holds, String what) {
        if (!holds) {
            wrong++;
            System.out.println("not as due: " + what);
        }
    }

    public static void main(String[] args) {
        for (Map.Entry<String, State> state : states().entrySet()) {
            for (String call : calls()) {
                for (List<String> walk : List.of(look(), cursorWalk(), backWalk(), freshWalk())) {
                    compare(state.getKey(), state.getValue(), call, walk);
                }
            }
        }
        for (String name : MAY_REFUSE) {
            need(refusals.keySet().stream().anyMatch(r -> r.startsWith(name + " ")), name + " was refused somewhere");
        }
        need(refusals.containsKey("groups UOE"), "groups() was refused for want of room");
        System.out.println(wrong == 0 ? compared + " refused calls changed nothing" : wrong + " refused calls are not as due");
        if (wrong != 0) {
            System.exit(1);
        }
    }
}
