/** Promise 4: what expressions are worth in a run. */
final class ExpressionTest {
    private static final int LEAST = Integer.MIN_VALUE;
    private static final int GREATEST = Integer.MAX_VALUE;

    public static void main(String[] args) {
        plainValues();
        orderOfSigns();
        wrapping();
        divisionByZero();
        Check.finish();
    }

    private static ChannelMachine prepared(String expression, int b, int c) {
        ChannelMachine m = Check.loaded("a:" + expression);
        m.set(1, b);
        m.set(2, c);
        return m;
    }

    private static void worth(String expression, int b, int c, int value) {
        ChannelMachine m = prepared(expression, b, c);
        Check.due("run of a:" + expression, ChannelMachine.ENDED, () -> m.run(1));
        Check.due("a after a:" + expression, value, () -> m.variable(0));
        Check.due("ACTS of a:" + expression, 1, () -> m.count(4));
    }

    private static void plainValues() {
        worth("0", 0, 0, 0);
        worth("999", 0, 0, 999);
        worth("007", 0, 0, 7);
        worth("b", 5, 0, 5);
        worth("f+e+d", 5, 6, 0);
        worth("-b", 5, 0, -5);
        worth("----b", 5, 0, 5);
        worth("b+c", 5, 6, 11);
        worth("b-c", 5, 6, -1);
        worth("b*c", 5, 6, 30);
        worth("b/c", 17, 5, 3);
        worth("b%c", 17, 5, 2);
        worth("b<c", 5, 6, 1);
        worth("b<c", 6, 6, 0);
        worth("b<c", 7, 6, 0);
        worth("b<c", LEAST, GREATEST, 1);
        worth("b=c", 6, 6, 1);
        worth("b=c", 6, -6, 0);
    }

    private static void orderOfSigns() {
        worth("9-3-2", 0, 0, 4);
        worth("100/10/5", 0, 0, 2);
        worth("100%30%4", 0, 0, 2);
        worth("7*3/2", 0, 0, 10);
        worth("7/2*3", 0, 0, 9);
        worth("2+3*4", 0, 0, 14);
        worth("(2+3)*4", 0, 0, 20);
        worth("9-(3-2)", 0, 0, 8);
        worth("-2*-3", 0, 0, 6);
        worth("-2-3", 0, 0, -5);
        worth("-(2-3)", 0, 0, 1);
        worth("2--3", 0, 0, 5);
        worth("1+1<3", 0, 0, 1);
        worth("3<1+1", 0, 0, 0);
        worth("1<2+(2<1)", 0, 0, 1);
        worth("(1<2)=(3<4)", 0, 0, 1);
        worth("1+(2*(3-(4+5)))", 0, 0, -11);
        worth("1<1+1*(1<1+1*(1<1+1*(1<1+1*2)))", 0, 0, 1);
    }

    private static void wrapping() {
        worth("b+1", GREATEST, 0, LEAST);
        worth("b-1", LEAST, 0, GREATEST);
        worth("-b", LEAST, 0, LEAST);
        worth("b*c", 1 << 16, 1 << 16, 0);
        worth("b*c", GREATEST, 3, 2147483645);
        worth("b/c", LEAST, -1, LEAST);
        worth("b%c", LEAST, -1, 0);
        worth("b/c", -7, 2, -3);
        worth("b%c", -7, 2, -1);
        worth("b/c", 7, -2, -3);
        worth("b%c", 7, -2, 1);
        worth("b/c", -7, -2, 3);
    }

    private static void divisionByZero() {
        for (String expression : new String[] {"1/0", "1%0", "0/0", "b/c", "0*(1/0)", "0<1%0", "1/(b-5)", "-(1/0)"}) {
            ChannelMachine m = prepared(expression, 5, 0);
            m.set(0, 77);
            Check.arithmetic("run of a:" + expression, () -> m.run(5));
            Check.due("a after a:" + expression, 77, () -> m.variable(0));
            Check.state(m, "broken by a:" + expression, 0, 0, 0, 1, 3);
            Check.outOfState("run again", () -> m.run(1));
        }
        for (String text : new String[] {"(.O!1/0)", "(.^1/0,.)", "(.?1/0,.,.)", "(.@1/0)", "(.[1/0&.,.])",
            "(.[1&.,.1/0&.,.])", "(.A!1/0)"}) {
            ChannelMachine m = Check.loaded(text);
            Check.arithmetic("run of " + text, () -> m.run(2));
            Check.state(m, "broken by " + text, 0, 0, 0, 2, 3);
            Check.box(m, "broken by " + text);
        }
    }
}
