import java.io.IOException;
import java.nio.file.Files;
import java.nio.file.Path;

/** README.md's example: what it says that the calls answer, and that it is told there as it stands here. */
public final class ReadmeTest {
    private static final Path README = Path.of("README.md");
    private static final Path SELF = Path.of("src/test/java/ReadmeTest.java");
    private static final int INDENT = 8;

    public static void main(String[] args) throws IOException {
        Check check = new Check("README.md");
        example(check);
        String due = between(SELF, "// the example begins\n", "        // the example ends\n").indent(-INDENT);
        String got = between(README, "```java\n", "```\n");
        check.isTrue("the example is\n" + got + "\n, due is\n" + due, got.equals(due));
        check.end();
    }

    private static void example(Check check) {
        // the example begins
        BayStowage ship = new BayStowage();
        ship.bay(2, 2, 3, 100, 1000, 1000);  // stacks, tiers, ports, tonnes a stack, vertical moment, list
        ship.plug(1, true);                  // stack 1 takes cold boxes
        int dry = ship.box(0, 2, 10, 0);     // box 0: from port 0 to port 2, 10 tonnes, dry
        int cold = ship.box(0, 1, 20, 1);    // box 1: from port 0 to port 1, 20 tonnes, cold
        int shifts = ship.plan();            // 0; NONE if there is no plan
        StringBuilder told = new StringBuilder();
        for (int i = 0; i < ship.moves(); i++) {
            int box = ship.move(i, 0);
            int port = ship.move(i, 1);
            int from = ship.move(i, 2);      // NONE: the quay
            int onto = ship.move(i, 3);      // NONE: the quay
            told.append(box + "@" + port + " " + from + ">" + onto + "; ");
        }
        int right = ship.verify();           // 0: the moves are a voyage
        ship.hand(1, 0);                     // the second move puts its box, the cold one, on stack 0 instead
        int wrong = ship.verify();           // 2: stack 0 has no plug, so the ship can't depart behind move 2
        int done = ship.replay(2);           // 2: the crane does two moves
        int there = ship.slot(0, 0);         // 1: the box that the crane has there
        int list = ship.moment(1);           // -10: 10 tonnes in stack 1, 20 in stack 0
        int sound = ship.moment(5);          // 0: what the crane has aboard is not sound
        int begun = ship.report(0, 0);       // 2: the boxes put on at port 0 that begin there
        // the example ends
        check.due("dry", 0, dry);
        check.due("cold", 1, cold);
        check.due("shifts", 0, shifts);
        check.isTrue("told: " + told, told.toString().equals("0@0 -1>1; 1@0 -1>1; 1@1 1>-1; 0@2 1>-1; "));
        check.due("right", 0, right);
        check.due("wrong", 2, wrong);
        check.due("done", 2, done);
        check.due("there", 1, there);
        check.due("list", -10, list);
        check.due("sound", 0, sound);
        check.due("begun", 2, begun);
    }

    private static String between(Path file, String begin, String end) throws IOException {
        String text = Files.readString(file);
        int first = text.indexOf(begin) + begin.length();
        return text.substring(first, text.indexOf(end, first));
    }
}
