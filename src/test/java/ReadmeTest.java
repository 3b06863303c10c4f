import java.io.IOException;
import java.lang.reflect.Method;
import java.lang.reflect.Modifier;
import java.nio.file.Files;
import java.nio.file.Path;
import java.util.ArrayList;
import java.util.List;

/** README.md tells the truth: its example answers as it says there, and it names each call as the face has it. */
public final class ReadmeTest {
    private static List<String> page;

    public static void main(String[] args) throws IOException {
        page = Files.readAllLines(Path.of("README.md"));
        Tests.of(ReadmeTest.class);
    }

    static void theExampleAnswersAsItSays(Due due) {
        Melodeon m = new Melodeon();
        tells(due, "m.setWaves(0, 1, 0, 7, 30)", m.setWaves(0, 1, 0, 7, 30));
        tells(due, "m.setEnvelope(0, 4, 4, 500, 5)", m.setEnvelope(0, 4, 4, 500, 5));
        tells(due, "m.begin(0, 12, 127)", m.begin(0, 12, 127));
        tells(due, "m.run(100)", m.run(100));
        tells(due, "m.ofVoice(0, 0)", m.ofVoice(0, 0));
        tells(due, "m.end(0)", m.end(0));
        tells(due, "m.silentIn(200)", m.silentIn(200));
        tells(due, "m.run(3)", m.run(3));
        tells(due, "m.write(0, 0, 24, 100, 10)", m.write(0, 0, 24, 100, 10));
        tells(due, "m.write(0, 4, 28, 100, 10)", m.write(0, 4, 28, 100, 10));
        tells(due, "m.setTempo(20, 5)", m.setTempo(20, 5));
        tells(due, "m.play(0)", m.play(0));
        tells(due, "m.wouldPeak(200)", m.wouldPeak(200));
        tells(due, "m.run(200)", m.run(200));
        tells(due, "m.stop()", m.stop());
        tells(due, "m.peak()", m.peak());
        tells(due, "m.clipped()", m.clipped());
        tells(due, "m.reset()", m.reset());
        tells(due, "m.begin(0, 48, 127)", "IllegalArgumentException");
        due.noArgument("m.begin(0, 48, 127)", () -> m.begin(0, 48, 127));
        tells(due, "m.clock()", m.clock());
    }

    /** The test has each line of the example: a line that it has not would be a claim that nobody holds. */
    static void theTestHasTheWholeExample(Due due) {
        due.same("calls in the example", page.stream().filter(line -> line.startsWith("m.")).count(), 20);
    }

    static void itNamesEachCallWithItsParameters(Due due) {
        for (Method call : Melodeon.class.getDeclaredMethods()) {
            if (Modifier.isPublic(call.getModifiers())) {
                due.same("parameters of " + call.getName(), parametersInTable(call.getName()), call.getParameterCount());
            }
        }
    }

    /** -1 if the table does not name it. */
    private static int parametersInTable(String name) {
        for (String line : page) {
            int at = line.startsWith("| `") ? line.indexOf("`" + name + "(") : -1;
            if (at >= 0) {
                String inside = line.substring(at + name.length() + 2, line.indexOf(')', at));
                return inside.isEmpty() ? 0 : inside.split(",").length;
            }
        }
        return -1;
    }

    /** Where the same call stands there twice, one of the lines must tell the answer. */
    private static void tells(Due due, String call, Object answer) {
        List<String> told = new ArrayList<>();
        for (String line : page) {
            if (line.startsWith(call + ";")) {
                told.add(line.substring(line.indexOf("//") + 2).trim().split(":")[0]);
            }
        }
        due.yes(call + " answers " + answer + ", README.md tells " + told, told.contains(answer.toString()));
    }
}
