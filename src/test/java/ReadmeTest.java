import java.io.IOException;
import java.nio.file.Files;
import java.nio.file.Path;

/** The example of README.md answers what its comments say. */
public final class ReadmeTest {
    private static final Check check = new Check("ReadmeTest");

    public static void main(String[] args) throws IOException {
        example();
        sameLines();
        check.end();
    }

    private static void example() {
        KindDesk desk = new KindDesk();
        int list = desk.type();                  // 1; TYPE 0 is INT
        int nil = desk.constructor(list, 5);     // 0: NAME 5, no FIELDS
        desk.put(0);                             // the row: a head that is an INT ..
        desk.put(list);                          // .. and a tail
        int cons = desk.constructor(list, 6);    // 1: NAME 6, takes the row as its FIELDS
        desk.put(list);
        desk.put(0);
        int length = desk.predicate();           // 0: of a list and an INT
        check.due("list", list, 1);
        check.due("nil", nil, 0);
        check.due("cons", cons, 1);
        check.due("length", length, 0);

        desk.clause();                           // length(v1, v4), v1 = cons(v2, v3), v3 = nil
        desk.put(1);
        desk.put(4);
        int called = desk.call(length);          // 0, the first DEMAND
        desk.put(2);
        desk.put(3);
        int formed = desk.form(1, 6);            // 1: v1 is NAME 6 of v2 and v3
        int ended = desk.form(3, 5);             // 2: v3 is NAME 5 of nothing
        int fault = desk.solve();                // 0: all is well
        int rounds = desk.told(1);               // 2 ROUNDS
        int tail = desk.typeOf(3);               // 1, the list
        int which = desk.meant(formed);          // 1, cons
        check.due("called", called, 0);
        check.due("formed", formed, 1);
        check.due("ended", ended, 2);
        check.due("fault", fault, 0);
        check.due("rounds", rounds, 2);
        check.due("tail", tail, 1);
        check.due("which", which, 1);

        int equal = desk.same(2, 3);             // 3: the head, an INT, and the tail have one TYPE
        int clash = desk.solve();                // 1: a CLASH
        int culprit = desk.told(0);              // 3, the DEMAND that CLASHES
        int still = desk.typeOf(3);              // 1: the latest SOLVING that was 0 tells it
        check.due("equal", equal, 3);
        check.due("clash", clash, 1);
        check.due("culprit", culprit, 3);
        check.due("still", still, 1);
    }

    /** The README's lines are those above, in their order, with nothing but checks between them. */
    private static void sameLines() throws IOException {
        String readme = Files.readString(Path.of("README.md"));
        int begin = readme.indexOf("```java\n");
        int end = readme.indexOf("\n```\n", begin + 1);
        check.due("README.md has an example", begin >= 0 && end > begin, true);
        String shown = begin >= 0 && end > begin ? readme.substring(begin + 8, end) : "";
        check.due("README.md's example is the one tested", shown.replaceAll("\n+", "\n").equals(tested()), true);
    }

    private static String tested() throws IOException {
        StringBuilder lines = new StringBuilder();
        for (String line : Files.readAllLines(Path.of("src/test/java/ReadmeTest.java"))) {
            String bare = line.strip();
            if (bare.matches("(KindDesk desk = new KindDesk|(int \\w+ = )?desk\\.).*")) {
                lines.append(lines.length() == 0 ? "" : "\n").append(bare);
            }
        }
        return lines.toString();
    }
}
