import java.io.IOException;
import java.nio.file.Files;
import java.nio.file.Path;
import java.util.ArrayList;
import java.util.List;

/** The example in README.md: its lines are these calls, and what it says of them is true. */
public final class ReadmeTest extends Checks {
    private static List<String> lines;

    public static void main(String[] args) throws IOException {
        about("the example in README.md");
        lines = exampleOf(Files.readAllLines(Path.of("README.md")));
        SiftedGraphs graphs = new SiftedGraphs();
        line("SiftedGraphs graphs = new SiftedGraphs();");
        line("graphs.type(0x6126647CL, 4);", graphs.type(0x6126647CL, 4));
        line("graphs.type(0x622665L, 3);", graphs.type(0x622665L, 3));
        line("graphs.read(0);", graphs.read(0));
        line("graphs.size(0);", graphs.size(0));
        line("graphs.sift(3);", graphs.sift(3));
        line("graphs.size(0);", graphs.size(0));
        line("graphs.set(1, 2);");
        graphs.set(1, 2);
        line("graphs.apply(2, 0, 1, 8);");
        graphs.apply(2, 0, 1, 8);
        line("graphs.count(2);", graphs.count(2));
        line("graphs.least(2);", graphs.least(2));
        line("graphs.quantify(3, 2, 1, false);");
        graphs.quantify(3, 2, 1, false);
        line("graphs.support(3);", graphs.support(3));
        line("graphs.shared();", graphs.shared());
        line("graphs.release(2);", graphs.release(2) ? "true" : "false");
        line("graphs.count(2);", thrownBy(() -> graphs.count(2)));
        due("lines without a call here", lines.toString(), "[]");
        finish();
    }

    private static List<String> exampleOf(List<String> readme) {
        int from = readme.indexOf("```java") + 1;
        int to = from + readme.subList(from, readme.size()).indexOf("```");
        return new ArrayList<>(readme.subList(from, to));
    }

    /** The next line of the example, which is this code, with a remark or without. */
    private static String line(String code) {
        String next = lines.isEmpty() ? "" : lines.remove(0);
        int end = next.indexOf(';') + 1;
        due("the line", next.substring(0, end), code);
        return next.substring(end).strip();
    }

    private static void line(String code, int answer) {
        line(code, Integer.toString(answer));
    }

    private static void line(String code, String answer) {
        String remark = line(code);
        due("the remark on " + code, remark.replaceAll("^// |[: ].*$", ""), answer);
    }
}
