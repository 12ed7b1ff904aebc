import java.io.IOException;
import java.nio.file.Files;
import java.nio.file.Path;
import java.util.ArrayList;
import java.util.List;

/** The calls that README.md shows, with the answers that it gives for them. */
public final class ReadmeTest {
    private static final Checks checks = new Checks();
    private static final List<String> done = new ArrayList<>();
    private static TwinGate gate;

    public static void main(String[] args) throws IOException {
        aSumThatIsEmitted();
        flippedBits();
        whatCannotBeMet();
        readmeShowsTheSame();
        checks.end();
    }

    private static void aSumThatIsEmitted() {
        make(50);
        add(12, 0, "1");
        add(3, 0, "2");
        add(1, 2, "3");
        add(4, 0, "4");
        add(2, 2, "5");
        add(13, 1, "6");
        add(14, 0, "7");
        output(1, 0);
        give(0, 21, true);
        cycle(1);
        output(1, 21);
        cycle(1);
        output(1, 42);
        cell(0, 2, "42");
        cell(1, 2, "2463678");
        count(1, 2);
        count(3, 14);
    }

    private static void flippedBits() {
        flip(0, 2, 4, 3, true);
        cycle(1);
        output(1, 63);
        flip(1, 17, 5, 10, true);
        count(4, 1);
        cycle(0);
        count(2, 3);
        count(5, 2);
        output(1, 0);
        cycle(0);
    }

    private static void whatCannotBeMet() {
        add(14, 0, "throws IllegalStateException");
        add(16, 0, "throws IllegalArgumentException");
        give(4, 1, false);
        flip(0, 2, 4, 3, false);
        output(4, -1);
        cell(0, 18, "throws IndexOutOfBoundsException");
        count(7, -1);
    }

    private static void make(int limit) {
        gate = new TwinGate(limit);
        done.add("TwinGate gate = new TwinGate(" + limit + ");");
    }

    private static void add(int op, int n, String want) {
        dueCall("add(" + op + ", " + n + ")", answerOf(Checks.add(gate, op, n)), want);
    }

    private static void give(int port, int v, boolean want) {
        dueCall("give(" + port + ", " + v + ")", "" + gate.give(port, v), "" + want);
    }

    private static void cycle(int want) {
        dueCall("cycle()", "" + gate.cycle(), "" + want);
    }

    private static void flip(int copy, int cell, int bit, int step, boolean want) {
        dueCall("flip(" + copy + ", " + cell + ", " + bit + ", " + step + ")",
            "" + gate.flip(copy, cell, bit, step), "" + want);
    }

    private static void output(int port, int want) {
        dueCall("output(" + port + ")", "" + gate.output(port), "" + want);
    }

    private static void cell(int copy, int cell, String want) {
        dueCall("cell(" + copy + ", " + cell + ")", answerOf(Checks.cell(gate, copy, cell)), want);
    }

    private static void count(int what, int want) {
        dueCall("count(" + what + ")", "" + gate.count(what), "" + want);
    }

    private static String answerOf(String answerOrException) {
        return answerOrException.endsWith("Exception") ? "throws " + answerOrException : answerOrException;
    }

    private static void dueCall(String call, String got, String want) {
        checks.due("call " + done.size() + ", " + call, got, want);
        done.add("gate." + call + "; // " + want);
    }

    private static void readmeShowsTheSame() throws IOException {
        List<String> shown = shownCalls();
        checks.due("how many calls README.md shows", shown.size(), done.size());
        for (int i = 0; i < Math.min(shown.size(), done.size()); i++) {
            checks.due("call " + i + " of README.md", shown.get(i), done.get(i));
        }
    }

    private static List<String> shownCalls() throws IOException {
        List<String> shown = new ArrayList<>();
        boolean inside = false;
        for (String line : Files.readAllLines(Path.of("README.md"))) {
            if (line.startsWith("```")) {
                inside = line.equals("```java");
            } else if (inside && !line.isBlank()) {
                shown.add(callAndAnswer(line));
            }
        }
        return shown;
    }

    /** The line without what it says behind the answer; a new object has no answer. */
    private static String callAndAnswer(String line) {
        String[] parts = line.split("//", 2);
        String call = parts[0].strip();
        if (parts.length < 2 || call.contains("new TwinGate")) {
            return call;
        }
        return call + " // " + parts[1].split(":", 2)[0].strip();
    }
}
