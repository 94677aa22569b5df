import java.util.NoSuchElementException;

/** What the tests share: a machine with a readable keyboard, and a tally of the answers that are not due. */
final class Check {
    /** A call of the machine whose answer is looked at. */
    interface Call {
        int answer();
    }

    private static int wrong = 0;

    private Check() {
    }

    static void due(String call, int want, Call made) {
        try {
            int got = made.answer();
            if (got != want) {
                report(call + " answered " + got + ", due is " + want);
            }
        } catch (RuntimeException e) {
            report(call + " threw " + e.getClass().getName() + ", due is " + want);
        }
    }

    static void bad(String call, Call made) {
        refused(call, IllegalArgumentException.class, made);
    }

    static void outOfState(String call, Call made) {
        refused(call, IllegalStateException.class, made);
    }

    static void arithmetic(String call, Call made) {
        refused(call, ArithmeticException.class, made);
    }

    static void noElement(String call, Call made) {
        refused(call, NoSuchElementException.class, made);
    }

    private static void refused(String call, Class<? extends RuntimeException> want, Call made) {
        try {
            int got = made.answer();
            report(call + " answered " + got + ", due is " + want.getName());
        } catch (RuntimeException e) {
            if (e.getClass() != want) {
                report(call + " threw " + e.getClass().getName() + ", due is " + want.getName());
            }
        }
    }

    static void report(String text) {
        wrong++;
        System.out.println(text);
    }

    /** Ends the test: with exit code 1 if an answer was not the one that is due. */
    static void finish() {
        if (wrong != 0) {
            System.out.println(wrong + " answers are not as due");
            System.exit(1);
        }
    }

    static long eight(String letters) {
        long number = 0;
        for (int k = 0; k < letters.length(); k++) {
            number = number << 8 | letters.charAt(k);
        }
        return number;
    }

    static void type(ChannelMachine machine, String text) {
        for (int from = 0; from < text.length(); from += 8) {
            machine.type(eight(text.substring(from, Math.min(from + 8, text.length()))));
        }
    }

    static ChannelMachine loaded(String text) {
        ChannelMachine machine = new ChannelMachine();
        type(machine, text);
        machine.load();
        return machine;
    }

    /** All of the state that the face shows, but for THE PLACE. */
    static void state(ChannelMachine m, String when, int time, int queue, int tasks, int acts, int state) {
        due(when + ": TIME", time, () -> m.count(1));
        due(when + ": THE QUEUE", queue, () -> m.count(2));
        due(when + ": TASKS", tasks, () -> m.count(3));
        due(when + ": ACTS", acts, () -> m.count(4));
        due(when + ": the program's state", state, () -> m.count(7));
    }

    static void variables(ChannelMachine m, String when, int... values) {
        for (int v = 0; v < values.length; v++) {
            int number = v;
            due(when + ": variable(" + v + ")", values[v], () -> m.variable(number));
        }
    }

    static void box(ChannelMachine m, String when, int... values) {
        due(when + ": values in the box", values.length, () -> m.count(6));
        for (int value : values) {
            due(when + ": take()", value, m::take);
        }
        noElement(when + ": take() of an empty box", m::take);
    }
}
