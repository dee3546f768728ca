import java.io.IOException;
import java.lang.reflect.Method;
import java.nio.charset.StandardCharsets;
import java.nio.file.Files;
import java.nio.file.Path;
import java.util.ArrayList;
import java.util.List;
import java.util.regex.Matcher;
import java.util.regex.Pattern;

/** Makes the calls that README.md shows, and compares what they answer with what stands behind them there. */
public final class ReadmeTest {
    private static final Pattern CALL = Pattern.compile("x\\.([a-z]+)\\(([^)]*)\\); +// (true|false|-?[0-9]+)(?![0-9]).*");

    private ReadmeTest() {
    }

    public static void main(String[] args) throws IOException, ReflectiveOperationException {
        List<String> lines = Files.readAllLines(Path.of("README.md"), StandardCharsets.UTF_8);
        List<List<String>> texts = blocks(lines, "```text");
        Checks.due("texts in README.md", texts.size(), 1);
        for (List<String> block : blocks(lines, "```java")) {
            if (block.get(0).startsWith("OtherPanes x")) {
                runCalls(block.subList(1, block.size()), new OtherPanes());
            } else if (block.get(0).startsWith("x.")) {
                OtherPanes x = new OtherPanes();
                Checks.feed(x, withoutRemarks(texts.get(0)));
                runCalls(block, x);
            }
        }
        Checks.finish("ReadmeTest");
    }

    private static List<List<String>> blocks(List<String> lines, String opening) {
        List<List<String>> blocks = new ArrayList<>();
        List<String> open = null;
        for (String line : lines) {
            if (line.equals(opening)) {
                open = new ArrayList<>();
                blocks.add(open);
            } else if (line.startsWith("```")) {
                open = null;
            } else if (open != null) {
                open.add(line);
            }
        }
        return blocks;
    }

    private static String withoutRemarks(List<String> lines) {
        StringBuilder text = new StringBuilder();
        for (String line : lines) {
            text.append(line, 0, line.indexOf(';') + 1).append('\n');
        }
        return text.toString();
    }

    private static void runCalls(List<String> block, OtherPanes x) throws ReflectiveOperationException {
        for (String line : block) {
            Matcher m = CALL.matcher(line);
            Checks.due("a call in README.md: " + line, m.matches(), true);
            if (m.matches()) {
                String answer = String.valueOf(answerOf(x, m.group(1), m.group(2)));
                Checks.same("README.md: " + line, answer, m.group(3));
            }
        }
    }

    private static Object answerOf(OtherPanes x, String name, String arguments) throws ReflectiveOperationException {
        List<Object> values = new ArrayList<>();
        List<Class<?>> types = new ArrayList<>();
        for (String argument : arguments.isEmpty() ? new String[0] : arguments.split(", ")) {
            boolean isTruth = argument.equals("true") || argument.equals("false");
            types.add(isTruth ? boolean.class : int.class);
            if (isTruth) {
                values.add(Boolean.valueOf(argument));
            } else {
                values.add(Integer.decode(argument));
            }
        }
        Method method = OtherPanes.class.getMethod(name, types.toArray(new Class<?>[0]));
        return method.invoke(x, values.toArray());
    }
}
