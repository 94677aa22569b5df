/** Promise 5. */
final class GiveTest {
    public static void main(String[] args) {
        keepsGiftsInOrder();
        holdsEight();
        givesAtOnceToATaskThatWaits();
        needsAProgramToBeRun();
        needsAProgramWithAnAct();
        Check.finish();
    }

    private static void keepsGiftsInOrder() {
        ChannelMachine m = Check.loaded("(I?aI?bI?c)");
        Check.due("give(5)", 1, () -> m.give(5));
        Check.due("give(-3)", 2, () -> m.give(-3));
        Check.due("gifts", 2, () -> m.count(5));
        Check.due("run(2)", ChannelMachine.MORE, () -> m.run(2));
        Check.variables(m, "two gifts", 5, -3, 0);
        Check.due("gifts", 0, () -> m.count(5));
        Check.due("give(the least int)", 1, () -> m.give(Integer.MIN_VALUE));
        Check.due("run(1)", ChannelMachine.ENDED, () -> m.run(1));
        Check.variables(m, "three gifts", 5, -3, Integer.MIN_VALUE);
        Check.due("ACTS", 3, () -> m.count(4));
    }

    private static void holdsEight() {
        ChannelMachine m = Check.loaded("^1,(I?aO!a)");
        for (int k = 1; k <= 8; k++) {
            int number = k;
            Check.due("gift " + k, k, () -> m.give(number));
        }
        Check.outOfState("the ninth gift", () -> m.give(9));
        Check.due("gifts", 8, () -> m.count(5));
        m.run(2);
        Check.due("room for one more", 8, () -> m.give(9));
        Check.due("run(200)", ChannelMachine.HOST, () -> m.run(200));
        Check.due("the box is full, its first value", 1, m::take);
        Check.due("run(200)", ChannelMachine.HOST, () -> m.run(200));
        Check.box(m, "nine gifts", 2, 3, 4, 5, 6, 7, 8, 9);
    }

    private static void givesAtOnceToATaskThatWaits() {
        ChannelMachine m = Check.loaded("{(I?aO!a)(^b<9,b:b+1)}");
        m.run(2);
        Check.due("a task waits at I", 1, () -> m.channel(4));
        Check.due("THE QUEUE", 1, () -> m.count(2));
        Check.due("give(6) answers how many there are", 0, () -> m.give(6));
        Check.variables(m, "before another ACT", 6);
        Check.due("nobody waits at I", 0, () -> m.channel(4));
        Check.due("THE QUEUE", 2, () -> m.count(2));
        Check.due("a second gift is kept", 1, () -> m.give(7));
        Check.due("run(2), the other task's turn", ChannelMachine.MORE, () -> m.run(2));
        Check.due("nothing in the box", 0, () -> m.count(6));
        Check.due("run(1)", ChannelMachine.MORE, () -> m.run(1));
        Check.box(m, "the task that waited", 6);
    }

    private static void needsAProgramToBeRun() {
        ChannelMachine m = new ChannelMachine();
        Check.outOfState("give(1) without a program", () -> m.give(1));
        Check.type(m, ".");
        m.load();
        Check.due("give(1)", 1, () -> m.give(1));
        m.run(1);
        Check.outOfState("give(1) to one that is over", () -> m.give(1));
        Check.due("the gift stays", 1, () -> m.count(5));
        Check.type(m, "#");
        m.load();
        Check.due("no gifts", 0, () -> m.count(5));
        Check.due("give(1)", 1, () -> m.give(1));
        Check.outOfState("run(2)", () -> m.run(2));
        Check.outOfState("give(1) to a broken one", () -> m.give(1));
        Check.due("the gift stays", 1, () -> m.count(5));
    }

    private static void needsAProgramWithAnAct() {
        for (String text : new String[] {"()", "(())", "(()())", "((())())"}) {
            ChannelMachine m = Check.loaded(text);
            Check.outOfState("give(1) to " + text, () -> m.give(1));
            Check.due("gifts of " + text, 0, () -> m.count(5));
        }
        ChannelMachine m = Check.loaded("((())I?a)");
        Check.due("give(1) to ((())I?a)", 1, () -> m.give(1));
    }
}
