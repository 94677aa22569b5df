/** Promise 6. */
final class TakeTest {
    public static void main(String[] args) {
        takesTheFirst();
        makesRoomForATaskThatWaits();
        worksWithoutAProgramToBeRun();
        leavesABrokenProgramsValue();
        Check.finish();
    }

    private static void takesTheFirst() {
        ChannelMachine m = Check.loaded("(O!3O!0-4O!5)");
        Check.noElement("take() of an empty box", m::take);
        m.run(2);
        Check.due("take()", 3, m::take);
        m.run(1);
        Check.due("values in the box", 2, () -> m.count(6));
        Check.due("take()", -4, m::take);
        Check.due("take()", 5, m::take);
        Check.noElement("take() of an empty box", m::take);
        Check.due("values in the box", 0, () -> m.count(6));
    }

    private static void makesRoomForATaskThatWaits() {
        ChannelMachine m = Check.loaded("(^a<8,(a:a+1O!a)O!9O!10)");
        Check.due("run(200)", ChannelMachine.HOST, () -> m.run(200));
        Check.due("a task waits at O", 2, () -> m.channel(5));
        Check.due("values in the box", 8, () -> m.count(6));
        Check.state(m, "the box is full", 0, 0, 1, 26, 1);
        Check.due("take()", 1, m::take);
        Check.due("nobody waits at O", 0, () -> m.channel(5));
        Check.due("the value has gone in", 8, () -> m.count(6));
        Check.state(m, "the task may go on", 0, 1, 1, 26, 1);
        Check.due("take()", 2, m::take);
        Check.due("values in the box", 7, () -> m.count(6));
        Check.due("run(200)", ChannelMachine.ENDED, () -> m.run(200));
        Check.due("ACTS", 27, () -> m.count(4));
        Check.box(m, "over", 3, 4, 5, 6, 7, 8, 9, 10);
    }

    private static void worksWithoutAProgramToBeRun() {
        ChannelMachine m = new ChannelMachine();
        Check.noElement("take() without a program", m::take);
        Check.type(m, "(O!1O!2)");
        m.load();
        m.run(9);
        Check.box(m, "over", 1, 2);
        Check.type(m, "(O!3O!4#)");
        m.load();
        Check.outOfState("run(9)", () -> m.run(9));
        Check.box(m, "broken", 3, 4);
    }

    private static void leavesABrokenProgramsValue() {
        ChannelMachine m = Check.loaded("{(^1,O!7)(^a<20,a:a+1b:1/0)}");
        Check.arithmetic("run(200)", () -> m.run(200));
        Check.due("values in the box", 8, () -> m.count(6));
        Check.box(m, "the ninth value is lost", 7, 7, 7, 7, 7, 7, 7, 7);
    }
}
