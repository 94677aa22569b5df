/** Promise 10. */
final class CountTest {
    public static void main(String[] args) {
        countsARunningProgram();
        countsWhatIsLeftOfAProgram();
        countsNothingOfAProgramWithoutAct();
        knowsNothingElse();
        Check.finish();
    }

    private static void counts(ChannelMachine m, String when, int... due) {
        for (int what = 0; what < due.length; what++) {
            int number = what;
            Check.due(when + ": count(" + what + ")", due[what], () -> m.count(number));
        }
    }

    private static void countsARunningProgram() {
        ChannelMachine m = new ChannelMachine();
        counts(m, "new", -1, 0, 0, 0, 0, 0, 0, 0, 0);
        Check.type(m, "(.,");
        Check.bad("load()", m::load);
        counts(m, "unread", 2, 0, 0, 0, 0, 0, 0, 0, 0);
        Check.type(m, "{(@2O!1#)(I?aO!a@9).(A?b)}");
        Check.due("load()", 12, m::load);
        counts(m, "loaded", 2, 0, 1, 1, 0, 0, 0, 1, 0);
        m.give(5);
        m.give(6);
        counts(m, "given", 2, 0, 1, 1, 0, 2, 0, 1, 0);
        m.run(1);
        counts(m, "one ACT", 2, 0, 4, 5, 1, 2, 0, 1, 0);
        m.run(1);
        counts(m, "two ACTS", 2, 0, 3, 5, 2, 2, 0, 1, 1);
        m.run(3);
        counts(m, "five ACTS", 2, 0, 2, 5, 5, 1, 1, 1, 2);
        m.run(1);
        counts(m, "six ACTS", 2, 0, 1, 4, 6, 1, 1, 1, 2);
        m.run(2);
        counts(m, "eight ACTS", 2, 2, 1, 4, 8, 1, 2, 1, 1);
        m.take();
        counts(m, "taken", 2, 2, 1, 4, 8, 1, 1, 1, 1);
        Check.outOfState("run(200)", () -> m.run(200));
        counts(m, "broken", 2, 9, 0, 0, 9, 1, 1, 3, 0);
    }

    private static void countsWhatIsLeftOfAProgram() {
        ChannelMachine m = Check.loaded("{(@3O!1).}");
        m.give(1);
        Check.due("run(9)", ChannelMachine.ENDED, () -> m.run(9));
        counts(m, "over", -1, 3, 0, 0, 4, 1, 1, 2, 0);
        Check.type(m, "{@3#(A!1)(A!2)}");
        m.load();
        Check.outOfState("run(9), a clash", () -> m.run(9));
        counts(m, "clashed", -1, 0, 0, 0, 5, 0, 0, 3, 0);
        Check.type(m, "{@3#(a:1/0)}");
        m.load();
        Check.arithmetic("run(9)", () -> m.run(9));
        counts(m, "divided", -1, 0, 0, 0, 4, 0, 0, 3, 0);
    }

    private static void countsNothingOfAProgramWithoutAct() {
        for (String text : new String[] {"()", "(())", "(()())", "((())())"}) {
            ChannelMachine m = Check.loaded(text);
            counts(m, text, -1, 0, 0, 0, 0, 0, 0, 2, 0);
            Check.noElement("take() of " + text, m::take);
            m.set(0, 3);
            Check.variables(m, text, 3);
        }
        counts(Check.loaded("(.())"), "(.())", -1, 0, 1, 1, 0, 0, 0, 1, 0);
    }

    private static void knowsNothingElse() {
        ChannelMachine m = Check.loaded(".");
        for (int what : new int[] {-1, 9, 10, Integer.MIN_VALUE, Integer.MAX_VALUE}) {
            Check.due("count(" + what + ")", -1, () -> m.count(what));
        }
    }
}
