import java.util.ArrayList;
import java.util.List;
import java.util.Map;
import java.util.Set;

/**
 * Calls of one desk as texts, such as "add(left, 5, MAX)", with their answers as texts.
 * The calls are counted: nothing is promised behind the 512th one, so no test may lean on it.
 */
final class Script {
    static final int MOST_CALLS = 512;

    private static final Map<String, Integer> NAMED = Map.of("MIN", Integer.MIN_VALUE, "MAX", Integer.MAX_VALUE);
    private static final Set<String> TRUE = Set.of("left", "partner");
    private static final Set<String> FALSE = Set.of("right", "lone");

    private final JoinDesk desk;
    private int calls = 0;

    /** Made as told: "JoinDesk(2, 1, 0)". */
    Script(String made) {
        List<String> args = argsOf(made);
        desk = new JoinDesk(number(args, 0), number(args, 1), number(args, 2));
    }

    int calls() {
        return calls;
    }

    /** The answer: a number, true, false or nothing, or IAE, ISE, UOE for the exception that was thrown. */
    String ask(String call) {
        try {
            return answerOf(call.substring(0, call.indexOf('(')).trim(), argsOf(call));
        } catch (IllegalArgumentException e) {
            return nameOf(e, IllegalArgumentException.class, "IAE");
        } catch (IllegalStateException e) {
            return nameOf(e, IllegalStateException.class, "ISE");
        } catch (UnsupportedOperationException e) {
            return nameOf(e, UnsupportedOperationException.class, "UOE");
        } catch (RuntimeException e) {
            return e.getClass().getName();
        }
    }

    /** A subclass, such as NumberFormatException, is not the exception that the document names. */
    private static String nameOf(RuntimeException e, Class<?> wanted, String name) {
        return e.getClass() == wanted ? name : e.getClass().getName();
    }

    private String answerOf(String name, List<String> args) {
        switch (name) {
            case "here":
                return here();
            case "rest":
                return rest();
            case "reads":
                return reads(number(args, 0));
            default:
                count();
                return told(name, args);
        }
    }

    private String told(String name, List<String> args) {
        switch (name) {
            case "add":
                return "" + desk.add(flag(args, 0), number(args, 1), number(args, 2));
            case "prepare":
                desk.prepare();
                return "nothing";
            case "kind":
                desk.kind(number(args, 0));
                return "nothing";
            case "next":
                return "" + desk.next();
            case "pair":
                return "" + desk.pair(number(args, 0));
            case "mark":
                return "" + desk.mark();
            case "back":
                return "" + desk.back();
            case "seek":
                return "" + desk.seek(number(args, 0));
            case "rewind":
                desk.rewind();
                return "nothing";
            case "count":
                return "" + desk.count(number(args, 0));
            case "rows":
                return "" + desk.rows(flag(args, 0), flag(args, 1));
            case "groups":
                return "" + desk.groups();
            case "group":
                return "" + desk.group(number(args, 0), number(args, 1));
            case "sorted":
                return "" + desk.sorted(flag(args, 0), number(args, 1), number(args, 2));
            case "about":
                return "" + desk.about(number(args, 0));
            case "clear":
                desk.clear();
                return "nothing";
            default:
                throw new AssertionError("no such call: " + name);
        }
    }

    /** The pair that the cursor is at: key, left value, right value, left number, right number. */
    private String here() {
        List<String> facts = new ArrayList<>();
        for (int what = 0; what < 5; what++) {
            facts.add(ask("pair(" + what + ")"));
        }
        return String.join(" ", facts);
    }

    /** All pairs ahead of the cursor, each as key:left number/right number. */
    private String rest() {
        List<String> pairs = new ArrayList<>();
        while (ask("next()").equals("true")) {
            pairs.add(ask("pair(0)") + ":" + ask("pair(3)") + "/" + ask("pair(4)"));
        }
        return String.join(" ", pairs);
    }

    /** CELLS READ behind each of so many next() calls. */
    private String reads(int times) {
        List<String> cells = new ArrayList<>();
        for (int n = 0; n < times; n++) {
            ask("next()");
            cells.add(ask("about(0)"));
        }
        return String.join(" ", cells);
    }

    private void count() {
        calls++;
        if (calls > MOST_CALLS) {
            throw new AssertionError("the test itself makes more than " + MOST_CALLS + " calls");
        }
    }

    private static List<String> argsOf(String call) {
        String inside = call.substring(call.indexOf('(') + 1, call.indexOf(')')).trim();
        return inside.isEmpty() ? List.of() : List.of(inside.split("\\s*,\\s*"));
    }

    private static int number(List<String> args, int i) {
        Integer named = NAMED.get(args.get(i));
        return named != null ? named : Integer.parseInt(args.get(i));
    }

    private static boolean flag(List<String> args, int i) {
        if (!TRUE.contains(args.get(i)) && !FALSE.contains(args.get(i))) {
            throw new AssertionError("neither of left, partner, right, lone: " + args.get(i));
        }
        return TRUE.contains(args.get(i));
    }
}
