/**
 * Runs of calls on a new machine, written as text: {@code "load (a:1O!a) 3; run 9 ENDED; box 1"}. A call stands with
 * its arguments and the answer that is due, a number or one of the words below; "program" loads what must be one. Each run
 * belongs to a sentence of the document, which is told with every answer that is not due.
 */
final class Script {
    private static String sentence = "";

    private final ChannelMachine machine = new ChannelMachine();
    private final String label;

    private Script(String label) {
        this.label = label;
    }

    /** The sentence of the document that the runs after this one are about. */
    static void sentence(String words) {
        sentence = words;
    }

    static void play(String calls) {
        Script script = new Script("[" + sentence + "] " + calls + ": ");
        for (String step : calls.split("; ")) {
            script.follow(step);
        }
    }

    /** The text is a program. */
    static void reads(String text, int processes) {
        play("load " + text + " " + processes + "; count 0 -1; type 0");
    }

    /** The text is no program, and goes wrong at the place. */
    static void refuses(String text, int place) {
        play("load " + text + " BAD; count 0 " + place + "; type 0; count 7 0");
    }

    private void follow(String step) {
        String[] words = step.trim().split(" +");
        switch (words[0]) {
            case "program": Check.due(label + step, 1, () -> isRead(words[1])); break;
            case "variables": Check.variables(machine, label, numbers(words)); break;
            case "box": Check.box(machine, label, numbers(words)); break;
            case "channels": lookAtChannels(numbers(words)); break;
            case "counts": lookAtCounts(numbers(words)); break;
            default: judge(step, words); break;
        }
    }

    private void judge(String step, String[] words) {
        switch (words[words.length - 1]) {
            case "BAD": Check.bad(label + step, () -> call(words)); break;
            case "STATE": Check.outOfState(label + step, () -> call(words)); break;
            case "ARITHMETIC": Check.arithmetic(label + step, () -> call(words)); break;
            case "ELEMENT": Check.noElement(label + step, () -> call(words)); break;
            case "ENDED": Check.due(label + step, 0, () -> call(words)); break;
            case "MORE": Check.due(label + step, 1, () -> call(words)); break;
            case "HOST": Check.due(label + step, 2, () -> call(words)); break;
            case "DONE": Check.due(label + step, 0, () -> call(words)); break;
            default: Check.due(label + step, number(words, words.length - 1), () -> call(words)); break;
        }
    }

    private int call(String[] words) {
        switch (words[0]) {
            case "type": return type(words.length > 2 ? words[1] : "");
            case "bytes": return machine.type(Long.parseUnsignedLong(words[1], 16));
            case "load": return load(words.length > 2 ? words[1] : "");
            case "run": return machine.run(number(words, 1));
            case "give": return machine.give(number(words, 1));
            case "take": return machine.take();
            case "variable": return machine.variable(number(words, 1));
            case "set": return set(number(words, 1), number(words, 2));
            case "channel": return machine.channel(number(words, 1));
            case "count": return machine.count(number(words, 1));
            default: throw new AssertionError("no call: " + words[0]);
        }
    }

    private int type(String text) {
        int length = machine.type(0);
        for (int from = 0; from < text.length(); from += 8) {
            length = machine.type(Check.eight(text.substring(from, Math.min(from + 8, text.length()))));
        }
        return length;
    }

    private int load(String text) {
        type(text);
        return machine.load();
    }

    private int isRead(String text) {
        return load(text) > 0 ? 1 : 0;
    }

    private int set(int v, int value) {
        machine.set(v, value);
        return 0;
    }

    private void lookAtChannels(int[] due) {
        for (int c = 0; c < 6; c++) {
            int number = c;
            Check.due(label + "channel(" + c + ")", due[c], () -> machine.channel(number));
        }
    }

    /** TIME, THE QUEUE, TASKS, ACTS, gifts, values in the box, the program's state, TASKS WAITING for TIME. */
    private void lookAtCounts(int[] due) {
        for (int what = 1; what <= 8; what++) {
            int number = what;
            Check.due(label + "count(" + what + ")", due[what - 1], () -> machine.count(number));
        }
    }

    private static int number(String[] words, int at) {
        return Integer.parseInt(words[at]);
    }

    private static int[] numbers(String[] words) {
        int[] numbers = new int[words.length - 1];
        for (int k = 0; k < numbers.length; k++) {
            numbers[k] = number(words, k + 1);
        }
        return numbers;
    }
}
