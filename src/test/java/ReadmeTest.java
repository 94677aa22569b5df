import java.io.IOException;
import java.nio.file.Files;
import java.nio.file.Path;
import java.util.List;
import java.util.regex.Matcher;
import java.util.regex.Pattern;

/** What README.md shows is so: each call of its example answers what stands behind it, each process can be read. */
final class ReadmeTest {
    private static final Pattern CALL = Pattern.compile("m\\.(\\w+)\\((\\w*)\\); +// (-?\\w+)\\b.*");
    private static final Pattern PROCESS = Pattern.compile("\\| `(\\S+)` \\| .*");
    private static final int CALLS = 13;
    private static final int PROCESSES = 11;

    public static void main(String[] args) throws IOException {
        List<String> lines = Files.readAllLines(Path.of("README.md"));
        playTheExample(lines.subList(lines.indexOf("```java") + 1, lines.indexOf("```")));
        readTheProcesses(lines.subList(lines.indexOf("| process | what it does |") + 2, lines.size()));
        Check.finish();
    }

    private static void playTheExample(List<String> lines) {
        ChannelMachine m = new ChannelMachine();
        int calls = 0;
        for (String line : lines) {
            Matcher call = CALL.matcher(line);
            if (call.matches()) {
                calls++;
                judge(line, m, call);
            }
        }
        lookAtTally("calls", CALLS, calls);
    }

    private static void judge(String line, ChannelMachine m, Matcher call) {
        long argument = call.group(2).isEmpty() ? 0 : Long.decode(call.group(2).replace("L", ""));
        Check.Call made = () -> answer(m, call.group(1), argument);
        switch (call.group(3)) {
            case "IllegalArgumentException": Check.bad(line, made); break;
            case "HOST": Check.due(line, ChannelMachine.HOST, made); break;
            default: Check.due(line, Integer.parseInt(call.group(3)), made); break;
        }
    }

    private static int answer(ChannelMachine m, String name, long argument) {
        switch (name) {
            case "type": return m.type(argument);
            case "load": return m.load();
            case "run": return m.run((int) argument);
            case "give": return m.give((int) argument);
            case "take": return m.take();
            case "variable": return m.variable((int) argument);
            case "channel": return m.channel((int) argument);
            case "count": return m.count((int) argument);
            default: throw new AssertionError("no call: " + name);
        }
    }

    private static void readTheProcesses(List<String> lines) {
        int processes = 0;
        for (String line : lines) {
            Matcher process = PROCESS.matcher(line);
            if (!process.matches()) {
                break;
            }
            processes++;
            ChannelMachine m = new ChannelMachine();
            Check.type(m, process.group(1));
            Check.due(line, 1, () -> m.load() > 0 ? 1 : 0);
        }
        lookAtTally("processes", PROCESSES, processes);
    }

    /** So that a line which this test doesn't understand is not passed over. */
    private static void lookAtTally(String what, int due, int seen) {
        if (seen != due) {
            Check.report("README.md shows " + seen + " " + what + ", " + due + " are known");
        }
    }
}
