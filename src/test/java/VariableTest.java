/** Promises 7 and 8: variable and set. */
final class VariableTest {
    private static final int[] WRONG = {-1, 6, 7, Integer.MIN_VALUE, Integer.MAX_VALUE};

    public static void main(String[] args) {
        readsAllSix();
        setsAtAnyTime();
        refusesWrongNumbers();
        Check.finish();
    }

    private static void readsAllSix() {
        ChannelMachine m = Check.loaded("(a:1b:2c:3d:4e:5f:6)");
        Check.variables(m, "loaded", 0, 0, 0, 0, 0, 0);
        Check.due("run(5)", ChannelMachine.MORE, () -> m.run(5));
        Check.variables(m, "five ACTS", 1, 2, 3, 4, 5, 0);
        Check.due("run(5)", ChannelMachine.ENDED, () -> m.run(5));
        Check.variables(m, "over", 1, 2, 3, 4, 5, 6);
    }

    private static void setsAtAnyTime() {
        ChannelMachine m = new ChannelMachine();
        m.set(0, 5);
        m.set(5, Integer.MIN_VALUE);
        Check.variables(m, "without a program", 5, 0, 0, 0, 0, Integer.MIN_VALUE);
        Check.type(m, "(b:a{(^c<1,.d:7)}e:1/0)");
        m.load();
        Check.variables(m, "loaded", 0, 0, 0, 0, 0, 0);
        m.set(0, 3);
        Check.due("run(6)", ChannelMachine.MORE, () -> m.run(6));
        Check.variables(m, "to be run", 3, 3, 0, 0, 0, 0);
        m.set(2, 1);
        Check.arithmetic("run(9)", () -> m.run(9));
        Check.variables(m, "broken", 3, 3, 1, 7, 0, 0);
        m.set(4, 9);
        Check.variables(m, "set when broken", 3, 3, 1, 7, 9, 0);
        Check.due("still broken", 3, () -> m.count(7));
        for (int v = 0; v < 6; v++) {
            m.set(v, 10 + v);
        }
        Check.variables(m, "all set", 10, 11, 12, 13, 14, 15);
    }

    private static void refusesWrongNumbers() {
        ChannelMachine m = Check.loaded(".");
        for (int v : WRONG) {
            Check.bad("variable(" + v + ")", () -> m.variable(v));
            Check.bad("set(" + v + ", 1)", () -> {
                m.set(v, 1);
                return 0;
            });
        }
        Check.variables(m, "after wrong calls", 0, 0, 0, 0, 0, 0);
    }
}
