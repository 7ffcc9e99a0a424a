import java.io.IOException;
import java.nio.file.Files;
import java.nio.file.Path;

/** The example of README.md is this file's own code, word for word, and answers what it says there. */
public final class ReadmeTest {
    private static final String BEGIN = "// The example begins.\n";
    private static final String END = "        // The example ends.\n";
    private static final String INDENT = " ".repeat(8);

    private static int wrong = 0;

    private static void due(String what, Object got, Object want) {
        if (!got.equals(want)) {
            wrong++;
            System.out.println(what + " is " + got + ", README.md says " + want);
        }
    }

    private static void example() {
        // The example begins.
        JoinDesk desk = new JoinDesk(10, 10, 5);    // room for 10 left rows, 10 right rows, 5 groups
        int first = desk.add(true, 5, 100);         // a left row of key 5 and value 100: number 0
        int second = desk.add(true, 5, -2);         // another one of the same key: number 1
        desk.add(false, 5, 7);                      // right rows, with numbers of their own
        desk.add(false, 6, 8);
        desk.prepare();                             // sorts both tables; due again when a row has come

        desk.kind(2);                               // right rows without a left one are told too
        StringBuilder told = new StringBuilder();
        while (desk.next()) {
            told.append(desk.pair(0)).append(": ");       // the key
            told.append(desk.pair(1)).append(" with ");   // the left value, 0 if there is no left row
            told.append(desk.pair(2)).append("; ");       // the right value
        }                                           // told: "5: 100 with 7; 5: -2 with 7; 6: 0 with 8; "

        boolean found = desk.seek(6);               // true: the cursor is before the first pair of key 6 or above
        int passed = desk.mark();                   // 2 pairs are before it
        boolean more = desk.next();                 // true: at the pair of key 6
        int leftNumber = desk.pair(3);              // JoinDesk.NONE: it has no left row
        int again = desk.back();                    // 2: the cursor is where it was marked

        long pairs = desk.count(0);                 // 2, counted without going through them
        int lone = desk.rows(false, false);         // 1 right row has no partner
        int groups = desk.groups();                 // 1 key has pairs of kind 0; due before group()
        long sum = desk.group(0, 2);                // 686: 100 * 7 + -2 * 7
        int lastKey = desk.sorted(false, 1, 0);     // 6: the key of the second sorted right row
        long cells = desk.about(0);                 // 11 keys were looked at by next() and seek() so far
        // The example ends.
        due("first", first, 0);
        due("second", second, 1);
        due("told", told.toString(), "5: 100 with 7; 5: -2 with 7; 6: 0 with 8; ");
        due("found", found, true);
        due("passed", passed, 2);
        due("more", more, true);
        due("leftNumber", leftNumber, JoinDesk.NONE);
        due("again", again, 2);
        due("pairs", pairs, 2L);
        due("lone", lone, 1);
        due("groups", groups, 1);
        due("sum", sum, 686L);
        due("lastKey", lastKey, 6);
        due("cells", cells, 11L);
    }

    private static String between(String text, String begin, String end) {
        int from = text.indexOf(begin);
        int to = from < 0 ? -1 : text.indexOf(end, from + begin.length());
        return to < 0 ? "not found: " + begin + end : text.substring(from + begin.length(), to);
    }

    private static void sameText() throws IOException {
        String own = Files.readString(Path.of("src/test/java/ReadmeTest.java"));
        String readme = Files.readString(Path.of("README.md"));
        String here = between(own.substring(own.indexOf("void example()")), BEGIN, END);
        due("the example", between(readme, "```java\n", "```\n"), here.replaceAll("(?m)^" + INDENT, ""));
    }

    /** Each call of the face has a row in the table of calls. */
    private static void allCalls() throws IOException {
        String readme = Files.readString(Path.of("README.md"));
        for (java.lang.reflect.Method m : JoinDesk.class.getMethods()) {
            if (m.getDeclaringClass() == JoinDesk.class) {
                due("a row for " + m.getName(), readme.contains("\n| `" + m.getName() + "("), true);
            }
        }
    }

    public static void main(String[] args) throws IOException {
        example();
        sameText();
        allCalls();
        System.out.println(wrong == 0 ? "README.md is as due" : wrong + " things in README.md are not as due");
        if (wrong != 0) {
            System.exit(1);
        }
    }
}
