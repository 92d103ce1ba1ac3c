import java.io.IOException;
import java.nio.file.Files;
import java.nio.file.Path;
import java.util.List;

/** The calls of README.md, in its order: they answer what it says, and it says what is called here. */
public final class ReadmeTest {
    private final Due due = new Due();
    private final ThatchRoof village = new ThatchRoof();
    private final List<String> lines;
    private int next;

    private ReadmeTest(List<String> lines) {
        this.lines = lines;
    }

    public static void main(String[] args) throws IOException {
        ReadmeTest test = new ReadmeTest(Files.readAllLines(Path.of("README.md")).stream()
                .filter(line -> line.startsWith("village.")).toList());
        test.buildsAndThatches();
        test.looksAhead();
        test.mendsAndPasses();
        test.due.same("calls of README.md that were tried", test.next, test.lines.size());
        test.due.end("ReadmeTest");
    }

    private void buildsAndThatches() {
        says("village.bring(0, 200);", 200, () -> village.bring(0, 200));
        says("village.build(5, 2, 40);", 0, () -> village.build(5, 2, 40));
        says("village.needs(0, 30);", 80, () -> village.needs(0, 30));
        says("village.layCourse(0, 0, 0, 30, 4);", 5, () -> village.layCourse(0, 0, 0, 30, 4));
        says("village.layCourse(0, 1, 0, 16, 3);", 5, () -> village.layCourse(0, 1, 0, 16, 3));
        says("village.setWeather(11, 6, 5);", 40, () -> village.setWeather(11, 6, 5));
    }

    private void looksAhead() {
        says("village.holds(0);", 12, () -> village.holds(0));
        says("village.tears(0, 7);", 4, () -> village.tears(0, 7));
        says("village.foresee(0, 12, 0);", 8, () -> village.foresee(0, 12, 0));
        says("village.advise(0, 12);", 5, () -> village.advise(0, 12));
    }

    private void mendsAndPasses() {
        says("village.mend(0, 1, 0);", 26, () -> village.mend(0, 1, 0));
        says("village.count(2);", 132, () -> village.count(2));
        says("village.pass(12);", 1, () -> village.pass(12));
        says("village.roof(0, 6);", 1, () -> village.roof(0, 6));
        says("village.roof(0, 7);", 1, () -> village.roof(0, 7));
        says("village.yealm(0, 1, 4, 0);", 0, () -> village.yealm(0, 1, 4, 0));
        says("village.lay(0, 1, 4, 0, 16, 3);", 5, () -> village.lay(0, 1, 4, 0, 16, 3));
        says("village.bring(2, 10);", 10, () -> village.bring(2, 10));
        says("village.bind(0);", 83, () -> village.bind(0));
    }

    private void says(String call, long answer, Due.Call made) {
        String line = next < lines.size() ? lines.get(next) : "";
        next++;
        due.same("README.md on " + call, line.replaceFirst(";\\s+// (\\d+)\\b.*", "; $1"), call + " " + answer);
        due.answers(call, answer, made);
    }
}
