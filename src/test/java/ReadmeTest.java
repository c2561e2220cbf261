import java.lang.reflect.Method;
import java.lang.reflect.Modifier;
import java.nio.file.Files;
import java.nio.file.Path;
import java.util.List;

/** What README.md says of the class: the answers of its example, and that it tells of each call of the face. */
public final class ReadmeTest {
    private static final String MADE = "BrakeCurve line = new BrakeCurve();";

    public static void main(String[] args) throws Exception {
        String readme = Files.readString(Path.of("README.md"));
        List<String> example = exampleOf(readme);
        List<String> due = answered();
        Check.due("lines of the example", due.size() + 1, example.size());
        Check.due("the first one", (Object) MADE, (Object) example.get(0));
        for (int i = 0; i < due.size() && i + 1 < example.size(); i++) {
            Check.due("line of the example", (Object) due.get(i), (Object) callAndAnswer(example.get(i + 1)));
        }
        for (Method method : BrakeCurve.class.getDeclaredMethods()) {
            if (Modifier.isPublic(method.getModifiers())) {
                Check.isTrue("README.md tells of " + method.getName(), readme.contains("| `" + method.getName() + "("));
            }
        }
        Check.isTrue("README.md says how to run the tests", readme.contains("\n.ci/run\n"));
        Check.end("ReadmeTest");
    }

    private static List<String> exampleOf(String readme) {
        String open = "```java\n";
        int from = readme.indexOf(open) + open.length();
        return readme.substring(from, readme.indexOf("\n```", from)).lines().toList();
    }

    /** A line of the example without the spaces between, and without what it says behind the answer. */
    private static String callAndAnswer(String line) {
        String[] parts = line.split(" +// ", 2);
        return parts.length < 2 ? line : parts[0] + " " + parts[1].split(":", 2)[0];
    }

    /** The calls of the example once more, in its order, each with what it answers. */
    private static List<String> answered() {
        BrakeCurve line = new BrakeCurve();
        return List.of(
                "line.station(600, 4); " + line.station(600, 4),
                "line.train(100, 2, 2, true); " + line.train(100, 2, 2, true),
                "line.pass(40); " + line.pass(40),
                "line.train(60, 1, 3, false); " + line.train(60, 1, 3, false),
                "line.pass(10); " + line.pass(10),
                "line.ofTrain(1, 0); " + line.ofTrain(1, 0),
                "line.may(1); " + line.may(1),
                "line.stops(1, 27); " + line.stops(1, 27),
                "line.why(1); " + line.why(1),
                "line.reaches(1, 900, 200); " + line.reaches(1, 900, 200),
                "line.closest(1, 60); " + line.closest(1, 60),
                "line.works(10, 11); " + line.works(10, 11),
                "line.worksIn(4, 5, 100); " + line.worksIn(4, 5, 100));
    }
}
