import java.io.IOException;
import java.nio.file.Files;
import java.nio.file.Path;
import java.util.regex.Matcher;
import java.util.regex.Pattern;

/** That the answers in the example of README.md are right: "int name = x.call(..);  // answer". */
public final class ReadmeTest {
    private static final Pattern ANSWER = Pattern.compile("= (x\\.\\w+\\([^;]*\\)); *// (-?\\d+)");

    public static void main(String[] args) throws IOException {
        Matcher lines = ANSWER.matcher(Files.readString(Path.of("README.md")));
        StringBuilder told = new StringBuilder();
        while (lines.find()) {
            told.append(lines.group(1)).append(" answers ").append(lines.group(2)).append('\n');
        }
        Check.due("the example", told.toString(), example());
        Check.finish("ReadmeTest");
    }

    private static String example() {
        StringBuilder text = new StringBuilder();
        Fabricsim x = new Fabricsim();
        x.reset(2, 5, 8);
        int flow = x.addFlow(0, 5, 100, 0);
        text.append("x.addFlow(0, 5, 100, 0) answers ").append(flow).append('\n');
        text.append("x.leastTicks() answers ").append(x.leastTicks()).append('\n');
        text.append("x.pass(20) answers ").append(x.pass(20)).append('\n');
        int spine = x.spineOf(flow);
        text.append("x.spineOf(flow) answers ").append(spine).append('\n');
        text.append("x.cut(1, spine) answers ").append(x.cut(1, spine)).append('\n');
        text.append("x.pass(200) answers ").append(x.pass(200)).append('\n');
        text.append("x.lost(flow) answers ").append(x.lost(flow)).append('\n');
        text.append("x.doneIn(flow) answers ").append(x.doneIn(flow)).append('\n');
        return text.toString();
    }
}
