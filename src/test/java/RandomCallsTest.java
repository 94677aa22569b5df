import java.util.NoSuchElementException;
import java.util.Random;

/** Calls at random, the same ones every time: what holds after each of them, whatever came before. */
final class RandomCallsTest {
    private static final String LETTERS = "aabcfAABDIO!!??..:::#(((){{}[[]^,,,@&&0112<=+-*/%~";
    private static final String[] PARTS = {"A!1", "A?a", "B!b", "B?c", "O!a", "I?b", "a:a+1", "b:b*9-a", ".", "@a", "@2",
        "^a<9,", "^1,", "?a,", "?b<3,", "{", "}", "(", ")", "[1&A?a,", "[b&I?b,", "1&B?d,", "1&.,", "]", ",", "c:a/b"};
    private static final int OBJECTS = 400;
    private static final int CALLS = 512;

    private final Random random = new Random(20260101);
    private ChannelMachine machine;
    private String call;

    public static void main(String[] args) {
        RandomCallsTest test = new RandomCallsTest();
        for (int k = 0; k < OBJECTS; k++) {
            test.useOneObject();
        }
        Check.finish();
    }

    private void useOneObject() {
        machine = new ChannelMachine();
        for (int k = 0; k < CALLS; k += 16) {
            int acts = machine.count(4);
            int state = machine.count(7);
            makeCall();
            looksRight(acts, state);
        }
    }

    private void makeCall() {
        try {
            switch (random.nextInt(8)) {
                case 0:
                case 1:
                    loadSomething();
                    break;
                case 2:
                case 3:
                case 4:
                    runSome(random.nextInt(4) == 0 ? random.nextInt(202) : 1 + random.nextInt(9));
                    break;
                case 5:
                    call = "give";
                    machine.give(random.nextInt(5) - 2);
                    break;
                case 6:
                    call = "take";
                    machine.take();
                    break;
                default:
                    call = "set";
                    machine.set(random.nextInt(8) - 1, random.nextInt());
                    break;
            }
        } catch (IllegalArgumentException | IllegalStateException e) {
            call += " refused";
        } catch (ArithmeticException e) {
            if (!call.startsWith("run")) {
                Check.report(call + " threw an ArithmeticException");
            }
        } catch (NoSuchElementException e) {
            if (!call.equals("take") || machine.count(6) != 0) {
                Check.report(call + " threw a NoSuchElementException");
            }
        }
    }

    private void loadSomething() {
        StringBuilder text = new StringBuilder();
        boolean wild = random.nextInt(3) == 0;
        int length = 1 + random.nextInt(wild ? 12 : 9);
        for (int k = 0; k < length; k++) {
            text.append(wild ? "" + LETTERS.charAt(random.nextInt(LETTERS.length())) : PARTS[random.nextInt(PARTS.length)]);
        }
        String start = random.nextBoolean() ? "{" : "(";
        String whole = wild ? text.toString() : start + text + (start.equals("{") ? "}" : ")");
        call = "load " + whole;
        int before = machine.count(0);
        Check.type(machine, whole.substring(0, Math.min(72, whole.length())));
        try {
            machine.load();
            int state = whole.matches("[()]*") ? 2 : 1;
            if (machine.count(0) != before || machine.count(7) != state) {
                Check.report(call + " did not become the program");
            }
        } catch (IllegalArgumentException e) {
            call += " refused";
            if (machine.count(0) < 0 || machine.count(0) > whole.length()) {
                Check.report(call + " at " + machine.count(0));
            }
        }
        if (machine.type(0) != 0) {
            Check.report(call + " left a text");
        }
    }

    private void runSome(int most) {
        call = "run(" + most + ")";
        int acts = machine.count(4);
        int answer = machine.run(most);
        int done = machine.count(4) - acts;
        boolean right = switch (answer) {
            case ChannelMachine.ENDED -> machine.count(7) == 2 && done <= most;
            case ChannelMachine.MORE -> machine.count(7) == 1 && done == most;
            case ChannelMachine.HOST -> machine.count(7) == 1 && done < most && machine.count(2) == 0
                && machine.count(8) == 0 && machine.channel(4) + machine.channel(5) > 0;
            default -> false;
        };
        if (!right) {
            Check.report(call + " answered " + answer + " after " + done + " ACTS");
        }
    }

    private void looksRight(int acts, int state) {
        int ready = machine.count(2);
        int tasks = machine.count(3);
        int sleeping = machine.count(8);
        boolean toBeRun = machine.count(7) == 1;
        boolean right = ready + sleeping <= tasks && tasks <= 72
            && (toBeRun ? tasks >= 1 : tasks == 0)
            && machine.count(5) >= 0 && machine.count(5) <= 8
            && machine.count(6) >= 0 && machine.count(6) <= 8
            && (machine.channel(4) == 0 || machine.count(5) == 0)
            && (machine.channel(5) == 0 || machine.count(6) == 8)
            && (call.startsWith("load") || call.startsWith("run") || (machine.count(4) == acts && machine.count(7) == state));
        for (int c = 0; c < 6; c++) {
            right &= toBeRun || machine.channel(c) == 0;
        }
        if (!right) {
            Check.report("after " + call + ": " + ready + " ready, " + sleeping + " sleeping, " + tasks + " tasks");
        }
    }
}
