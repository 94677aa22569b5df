/** Promise 4: acts and how many there are, the queue, and how a run comes to its end. */
final class RunTest {
    public static void main(String[] args) {
        wrongCalls();
        countsActs();
        stopsAfterAsManyActs();
        givesNoTurnToOthersButAtLoops();
        loopsYieldAtOnce();
        parallelTasksInOrder();
        tasksEndAtOnce();
        tasksWithoutActs();
        programsWithoutActs();
        endsWithoutAnotherAct();
        meetsAtChannels();
        comesToADeadlock();
        clashes();
        Check.finish();
    }

    private static void wrongCalls() {
        ChannelMachine m = new ChannelMachine();
        Check.bad("run(0) without a program", () -> m.run(0));
        Check.outOfState("run(1) without a program", () -> m.run(1));
        Check.type(m, "^1,.");
        m.load();
        for (int n : new int[] {0, 201, -1, Integer.MIN_VALUE, Integer.MAX_VALUE}) {
            Check.bad("run(" + n + ")", () -> m.run(n));
        }
        Check.due("no ACT was done", 0, () -> m.count(4));
        Check.due("run(1)", ChannelMachine.MORE, () -> m.run(1));
        Check.due("run(200)", ChannelMachine.MORE, () -> m.run(200));
        Check.due("ACTS", 201, () -> m.count(4));
        ChannelMachine over = Check.loaded(".");
        over.run(1);
        Check.outOfState("run(1) of one that is over", () -> over.run(1));
        Check.bad("run(201) of one that is over", () -> over.run(201));
        ChannelMachine broken = Check.loaded("a:1/0");
        Check.arithmetic("run(1)", () -> broken.run(1));
        Check.outOfState("run(1) of a broken one", () -> broken.run(1));
        Check.bad("run(0) of a broken one", () -> broken.run(0));
    }

    private static void ends(String text, int acts, int... box) {
        ChannelMachine m = Check.loaded(text);
        Check.due("run of " + text, ChannelMachine.ENDED, () -> m.run(200));
        Check.state(m, text, 0, 0, 0, acts, 2);
        Check.box(m, text, box);
        if (acts > 1) {
            ChannelMachine short1 = Check.loaded(text);
            Check.due("a shorter run of " + text, ChannelMachine.MORE, () -> short1.run(acts - 1));
            Check.due("the last ACT of " + text, ChannelMachine.ENDED, () -> short1.run(1));
            ChannelMachine exact = Check.loaded(text);
            Check.due("a run of just the ACTS of " + text, ChannelMachine.ENDED, () -> exact.run(acts));
        }
    }

    private static void countsActs() {
        ends(".", 1);
        ends("a:1", 1);
        ends("O!7", 1, 7);
        ends("(..)", 2);
        ends("((.)(.(.)))", 3);
        ends("{}", 1);
        ends("({}{})", 2);
        ends("{..}", 3);
        ends("{.{.}}", 4);
        ends("?1,O!1,O!2", 2, 1);
        ends("?0,O!1,O!2", 2, 2);
        ends("?-1,O!1,O!2", 2, 1);
        ends("?1,(),O!2", 1);
        ends("(?0,O!1,()O!3)", 2, 3);
        ends("^0,#", 1);
        ends("^a<3,a:a+1", 7);
        ends("(^a<2,(a:a+1O!a)O!9)", 8, 1, 2, 9);
        ends("^a<2,(a:a+1^b<a*2,(b:b+1O!b))", 19, 1, 2, 3, 4);
        ends("@0", 1);
        ends("@-5", 1);
        ends("[1&.,.]", 2);
        ends("[1&.,()]", 1);
    }

    private static void stopsAfterAsManyActs() {
        ChannelMachine m = Check.loaded("(O!1O!2O!3O!4)");
        Check.due("run(1)", ChannelMachine.MORE, () -> m.run(1));
        Check.due("values in the box", 1, () -> m.count(6));
        Check.due("run(2)", ChannelMachine.MORE, () -> m.run(2));
        Check.due("values in the box", 3, () -> m.count(6));
        Check.state(m, "three ACTS", 0, 1, 1, 3, 1);
        Check.due("run(2)", ChannelMachine.ENDED, () -> m.run(2));
        Check.state(m, "over", 0, 0, 0, 4, 2);
        Check.box(m, "over", 1, 2, 3, 4);
    }

    private static void givesNoTurnToOthersButAtLoops() {
        ends("{(O!1O!2)(O!3O!4)}", 5, 1, 2, 3, 4);
        ends("{(.O!1{}O!2)(O!3O!4)}", 7, 1, 2, 3, 4);
        ends("{(?1,O!1,.O!2)O!3}", 5, 1, 2, 3);
        ends("{^a<2,(a:a+1O!10+a)^b<2,(b:b+1O!20+b)}", 15, 11, 21, 12, 22);
        ends("{(^a<1,a:1O!1)O!2}", 6, 2, 1);
        ends("{(^0,.O!1)O!2}", 4, 1, 2);
        ends("{([1&.,O!1]O!2)O!3}", 5, 1, 2, 3);
        ends("{(@0O!1)O!2}", 4, 1, 2);
    }

    /** The loop has yielded before the gift puts the other task behind it. */
    private static void loopsYieldAtOnce() {
        ChannelMachine m = Check.loaded("{(I?aO!a)^1,O!1}");
        Check.due("run(4)", ChannelMachine.MORE, () -> m.run(4));
        Check.due("THE QUEUE", 1, () -> m.count(2));
        Check.due("give(7)", 0, () -> m.give(7));
        Check.due("THE QUEUE", 2, () -> m.count(2));
        Check.due("run(3)", ChannelMachine.MORE, () -> m.run(3));
        Check.box(m, "a loop that yielded", 1, 1, 7);
        ChannelMachine empty = Check.loaded("{^b<9,()(O!1#)}");
        Check.due("run(2)", ChannelMachine.MORE, () -> empty.run(2));
        Check.due("a turn of a loop of nothing", ChannelMachine.MORE, () -> empty.run(1));
        Check.due("then the other's", 1, () -> empty.count(6));
    }

    private static void parallelTasksInOrder() {
        ends("{O!1O!2O!3O!4}", 5, 1, 2, 3, 4);
        ends("({O!1O!2}O!3)", 4, 1, 2, 3);
        ends("{{O!1O!2}O!3}", 5, 3, 1, 2);
        ends("{({.}O!1)(.{}O!2)}", 7, 2, 1);
        ends("({}O!1)", 2, 1);
        ends("^a<2,{a:a+1O!a}", 9, 1, 2);
        ends("(^a<30,{a:a+1..}O!a)", 152, 30);
        ChannelMachine m = Check.loaded("{{..}(..)}");
        m.run(1);
        Check.state(m, "the outer PARALLEL", 0, 2, 3, 1, 1);
        m.run(1);
        Check.state(m, "the inner PARALLEL", 0, 3, 5, 2, 1);
    }

    /** A task that has done its last ACT has ended before a gift puts another behind it. */
    private static void tasksEndAtOnce() {
        ChannelMachine m = Check.loaded("{..}");
        m.run(2);
        Check.state(m, "one of two has ended", 0, 1, 2, 2, 1);
        Check.due("run(1)", ChannelMachine.ENDED, () -> m.run(1));
        ChannelMachine parent = Check.loaded("{({.}O!1)(I?aO!2)}");
        Check.due("run(4)", ChannelMachine.MORE, () -> parent.run(4));
        Check.state(parent, "the child has ended", 0, 1, 3, 4, 1);
        Check.due("give(5)", 0, () -> parent.give(5));
        Check.due("run(9)", ChannelMachine.ENDED, () -> parent.run(9));
        Check.box(parent, "the parent was put first", 1, 2);
    }

    private static void tasksWithoutActs() {
        ends("{()}", 1);
        ends("{()(())}", 1);
        ends("({()()}O!1)", 2, 1);
        ends("{({()()}O!1O!2)O!3}", 5, 1, 2, 3);
        ChannelMachine m = Check.loaded("{()(.)()}");
        m.run(1);
        Check.state(m, "one of three has an ACT", 0, 1, 2, 1, 1);
        Check.due("run(1)", ChannelMachine.ENDED, () -> m.run(1));
    }

    /** The task that runs the program ends when it's made too, so there is nothing to be run. */
    private static void programsWithoutActs() {
        for (String text : new String[] {"()", "(())", "(()())", "((())())", "((((((()))))))"}) {
            ChannelMachine m = Check.loaded(text);
            Check.bad("run(0) of " + text, () -> m.run(0));
            Check.bad("run(201) of " + text, () -> m.run(201));
            Check.outOfState("run(1) of " + text, () -> m.run(1));
            Check.outOfState("run(200) of " + text, () -> m.run(200));
            Check.state(m, text, 0, 0, 0, 0, 2);
        }
        ends("(()(()).)", 1);
        ends("((.)()())", 1);
    }

    private static void endsWithoutAnotherAct() {
        ChannelMachine m = Check.loaded("I?a");
        Check.due("run(1), as many as it may", ChannelMachine.MORE, () -> m.run(1));
        Check.due("run(1) without a gift", ChannelMachine.HOST, () -> m.run(1));
        Check.due("give(4)", 0, () -> m.give(4));
        Check.state(m, "not yet current", 0, 1, 1, 1, 1);
        Check.due("run(1)", ChannelMachine.ENDED, () -> m.run(1));
        Check.state(m, "over", 0, 0, 0, 1, 2);
        ChannelMachine pair = Check.loaded("{A!1(A?a.)}");
        Check.due("run(3)", ChannelMachine.MORE, () -> pair.run(3));
        Check.state(pair, "the output may go on", 0, 2, 3, 3, 1);
        Check.due("run(1)", ChannelMachine.ENDED, () -> pair.run(1));
        Check.due("ACTS", 4, () -> pair.count(4));
    }

    private static void meetsAtChannels() {
        ends("{(A!1O!10)(A?aO!20+a)}", 5, 21, 10);
        ends("{(A?aO!20+a)(A!1O!10)}", 5, 10, 21);
        ends("{(D!1D!2D!3)(D?aD?bD?cO!aO!bO!c)}", 10, 1, 2, 3);
        ends("{(A!1B?bO!b)(A?aB!a+1)}", 6, 2);
        ends("{(A!aO!1)(a:5A?bO!b)}", 6, 0, 1);
        ends("{A?a(a:5A!7O!a)}", 5, 7);
        ends("{C!1(.C?aO!a)(.O!5)}", 7, 1, 5);
        ends("{(A?aO!1)(B?aO!2)(B!0A!0O!3)}", 8, 3, 2, 1);
    }

    private static void breaks(String text, int acts) {
        ChannelMachine m = Check.loaded(text);
        Check.outOfState("run of " + text, () -> m.run(200));
        Check.state(m, text, 0, 0, 0, acts, 3);
        Check.due("TASKS WAITING for TIME after " + text, 0, () -> m.count(8));
        for (int c = 0; c < 6; c++) {
            int number = c;
            Check.due("channel(" + c + ") after " + text, 0, () -> m.channel(number));
        }
        Check.outOfState("run again of " + text, () -> m.run(1));
        Check.outOfState("give to " + text, () -> m.give(1));
    }

    private static void comesToADeadlock() {
        breaks("#", 1);
        breaks("A?a", 1);
        breaks("A!1", 1);
        breaks("[]", 1);
        breaks("{#.}", 3);
        breaks("{A!1B!2C!3D?a}", 5);
        breaks("(O!1A!1)", 2);
        breaks("[0&I?a,.]", 1);
        breaks("([0&.,.].@1O!1)", 1);
        ChannelMachine m = Check.loaded("(a:3#)");
        Check.due("as many ACTS as it may come first", ChannelMachine.MORE, () -> m.run(2));
        Check.state(m, "not yet broken", 0, 0, 1, 2, 1);
        Check.outOfState("run(1)", () -> m.run(1));
        Check.state(m, "broken", 0, 0, 0, 2, 3);
        Check.variables(m, "broken", 3);
        ChannelMachine host = Check.loaded("{#I?a}");
        Check.due("one waits for the host", ChannelMachine.HOST, () -> host.run(9));
        Check.due("and again", ChannelMachine.HOST, () -> host.run(9));
        host.give(1);
        Check.outOfState("none does", () -> host.run(9));
    }

    private static void clashes() {
        breaks("{A?aA?b.}", 3);
        breaks("{D!1D!2.}", 3);
        breaks("{I?aI?b.}", 3);
        breaks("{^1,O!1^1,O!2.}", 22);
        breaks("{[1&A?a,.]A?b.}", 3);
        breaks("{A?b[1&C?a,.1&A?a,.].}", 3);
        breaks("{[1&I?a,.][1&I?b,.].}", 3);
        ends("{(A?aA!2)(A!1A?a)}", 5);
        ends("{A?b[1&A?a,.1&.,A!1]}", 4);
        ends("{(A!1A!2)(A?aA?a)}", 5);
    }
}
