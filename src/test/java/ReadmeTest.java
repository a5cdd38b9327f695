import java.io.IOException;
import java.nio.file.Files;
import java.nio.file.Path;

/** The README's example answers what its comments say, and each call of the face is told there. */
public final class ReadmeTest {
    private static final String[] CALLS = {
        "piece(a, b, length, speed)", "turn(from, to, barred)", "stop(piece, side, at)", "way(from, to, t)", "step(i)",
        "gate(piece, open, close)", "change(piece, speed)", "table(i, j)", "piece2(i)", "service(piece, kind)"};

    private static int wrong = 0;
    private static String readme = "";

    private static void due(String call, String line, long got, long want) {
        if (got != want) {
            wrong++;
            System.out.println(call + " answered " + got + ", due is " + want);
        }
        dueInReadme(line);
    }

    private static void dueInReadme(String words) {
        if (!readme.contains(words)) {
            wrong++;
            System.out.println("README.md does not say: " + words);
        }
    }

    private static void example() {
        StreetGraph streets = new StreetGraph();
        int first = streets.piece(0, 1, 100, 10);
        due("piece", "int first = streets.piece(0, 1, 100, 10);", first, 0);
        int second = streets.piece(1, 2, 100, 20);
        due("piece", "int second = streets.piece(1, 2, 100, 20);", second, 1);
        int home = streets.stop(first, 0, 40);
        due("stop", "int home = streets.stop(first, 0, 40);", home, 0);
        int work = streets.stop(second, 1, 50);
        due("stop", "int work = streets.stop(second, 1, 50);", work, 1);
        due("gate", "streets.gate(second, 3600, 7200);", streets.gate(second, 3600, 7200), 1);
        due("way", "long arrival = streets.way(home, work, 0);", streets.way(home, work, 0), 3640);
        due("step", "int a = streets.step(0);", streets.step(0), first);
        due("step", "int b = streets.step(1);", streets.step(1), second);
        due("step", "int c = streets.step(2);", streets.step(2), StreetGraph.NONE);
    }

    public static void main(String[] args) throws IOException {
        readme = Files.readString(Path.of("README.md"));
        example();
        for (String call : CALLS) {
            dueInReadme("`" + call + "`");
        }
        System.out.println(wrong == 0 ? "the README holds" : wrong + " lines of the README do not hold");
        if (wrong != 0) {
            System.exit(1);
        }
    }
}
