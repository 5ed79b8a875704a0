import java.io.IOException;
import java.nio.file.Files;
import java.nio.file.Path;
import java.util.List;
import java.util.regex.Matcher;
import java.util.regex.Pattern;

/** The example of README.md, read from there: each call answers the number behind it. */
final class ReadmeTest {
    private static final Pattern TYPING = Pattern.compile("for \\(char c : \"(.*)\"\\.toCharArray\\(\\)\\) x\\.type\\(c\\);");
    private static final Pattern CALL = Pattern.compile("x\\.(\\w+)\\(([^,]*)\\);(?: +// (-?\\d+)\\b.*)?");

    public static void main(String[] args) throws IOException {
        List<String> lines = Files.readAllLines(Path.of("README.md"));
        int begin = lines.indexOf("DraftTree x = new DraftTree();") + 1;
        Check.same("there is an example", begin > 0, true);
        Run run = new Run();
        for (String line : lines.subList(begin, lines.size())) {
            if (line.equals("```")) {
                break;
            }
            run = add(run, line);
        }
        run.sees("1 two 1", 2, 4, 7, -1, 0);
        Check.end();
    }

    private static Run add(Run run, String line) {
        Matcher typing = TYPING.matcher(line);
        if (typing.matches()) {
            return run.type(typing.group(1));
        }
        Matcher call = CALL.matcher(line);
        Check.same("can be read: " + line, call.matches(), true);
        Run longer = add(run, call.group(1), call.group(2));
        return call.group(3) == null ? longer : longer.answers(Integer.valueOf(call.group(3)));
    }

    private static Run add(Run run, String name, String argument) {
        switch (name) {
            case "type":
                return run.type(argument.substring(1, 2));
            case "insert":
                return run.insert();
            case "compile":
                return run.compile().answers("done");
            case "find":
                return run.find(Integer.parseInt(argument));
            case "figure":
                return run.figure(Integer.parseInt(argument));
            case "replace":
                return run.replace();
            case "length":
                return run.length();
            case "undo":
                return run.undo();
            case "redo":
                return run.redo();
            case "erase":
                return run.erase(Integer.parseInt(argument));
            case "parent":
                return run.parent(Integer.parseInt(argument));
            case "jump":
                return run.jump(Integer.parseInt(argument)).answers("done");
            default:
                Check.same("is known", name, "a call of the example");
                return run;
        }
    }
}
