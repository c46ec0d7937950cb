import java.io.IOException;
import java.nio.file.Files;
import java.nio.file.Path;

/** The example of README.md: its calls stand there, and answer what stands behind them. */
public final class ReadmeTest {
    private static int line = -1;
    private static String[] lines = {};

    public static void main(String[] args) throws IOException {
        String readme = Files.readString(Path.of("README.md"));
        int start = readme.indexOf("```java") + 7;
        lines = readme.substring(start, readme.indexOf("```", start)).trim().split("\n");
        FloodBarrier barrier = new FloodBarrier();
        shown("FloodBarrier barrier = new FloodBarrier()", "");
        sections(barrier);
        others(barrier);
        tide(barrier);
        orders(barrier);
        hours(barrier);
        Due.is("lines of the example", line + 1, lines.length);
        Due.end();
    }

    /** Looks at the next line of the example: a call, and its answer behind it. */
    private static void shown(String call, String answer) {
        line++;
        String found = line < lines.length ? lines[line] : "";
        String due = call + ";" + (answer.isEmpty() ? "" : "// " + answer);
        Due.same("README.md, line of the example", found.replace(" ", ""), due.replace(" ", ""));
    }

    private static void answered(String call, long answer) {
        shown("barrier." + call, String.valueOf(answer));
    }

    private static void sections(FloodBarrier barrier) {
        answered("addSection(10, Double.doubleToRawLongBits(3.0), 2, 5)",
                barrier.addSection(10, Double.doubleToRawLongBits(3.0), 2, 5));
        answered("addSection(20, Double.doubleToRawLongBits(2.5), 1, 5)",
                barrier.addSection(20, Double.doubleToRawLongBits(2.5), 1, 5));
    }

    private static void others(FloodBarrier barrier) {
        answered("addDistrict(7)", barrier.addDistrict(7));
        answered("addStream(5000)", barrier.addStream(5000));
        answered("addPump(60, 8000)", barrier.addPump(60, 8000));
        answered("switchPump(0, true)", barrier.switchPump(0, true));
    }

    private static void tide(FloodBarrier barrier) {
        answered("type('2')", barrier.type('2'));
        answered("type('.')", barrier.type('.'));
        answered("type('8')", barrier.type('8'));
        answered("readTides(4)", barrier.readTides(4));
    }

    private static void orders(FloodBarrier barrier) {
        answered("close()", barrier.close());
        answered("vote(0, true)", barrier.vote(0, true));
        answered("close()", barrier.close());
        answered("shutIn()", barrier.shutIn());
    }

    private static void hours(FloodBarrier barrier) {
        shown("barrier.forecast(6)", String.valueOf(barrier.forecast(6)));
        answered("pass(6)", barrier.pass(6));
        answered("water(3)", barrier.water(3));
        answered("water(5)", barrier.water(5));
        answered("count(3)", barrier.count(3));
        answered("undo()", barrier.undo());
        answered("count(0)", barrier.count(0));
    }
}
