/** Promise 4: waiting for TIME. */
final class TimeTest {
    public static void main(String[] args) {
        growsByTheDelays();
        growsToTheLeast();
        wakesInTheOrderOfWaiting();
        growsOnlyWhenTheQueueIsEmpty();
        growsOnlyForAnotherAct();
        comesBeforeTheHostAndTheDeadlock();
        growsBeyondLongDelays();
        Check.finish();
    }

    private static void ends(String text, int time, int acts, int... box) {
        ChannelMachine m = Check.loaded(text);
        Check.due("run of " + text, ChannelMachine.ENDED, () -> m.run(200));
        Check.state(m, text, time, 0, 0, acts, 2);
        Check.box(m, text, box);
    }

    private static void growsByTheDelays() {
        ends("@7", 7, 1);
        ends("(@2@3O!1)", 5, 3, 1);
        ends("(@0@-3O!1)", 0, 3, 1);
        ends("^a<3,(a:a+1@a)", 6, 10);
        ends("{@5@9@2}", 9, 4);
    }

    private static void growsToTheLeast() {
        ends("{(@5O!5)(@3O!3)(@9O!9)(@4O!4)}", 9, 9, 3, 4, 5, 9);
        ends("{(@5O!5)(@3@1O!4)}", 5, 6, 4, 5);
    }

    private static void wakesInTheOrderOfWaiting() {
        ends("{(@3O!1)(@3O!2)(@3O!3)}", 3, 7, 1, 2, 3);
        ends("{(@2@1O!1)(@3O!2)}", 3, 6, 2, 1);
        ends("{(.@1@2O!1)(@2@1O!2)(@3O!3)}", 3, 10, 3, 1, 2);
        ends("{(@2O!1)(@1O!9@1O!2)(@2O!3)}", 2, 9, 9, 1, 3, 2);
    }

    private static void growsOnlyWhenTheQueueIsEmpty() {
        ends("{(@1O!1)(^a<3,(a:a+1O!5))}", 1, 13, 5, 5, 5, 1);
    }

    private static void growsOnlyForAnotherAct() {
        ChannelMachine m = Check.loaded("{(@5O!1)(@3O!2)}");
        Check.due("run(2)", ChannelMachine.MORE, () -> m.run(2));
        Check.due("one waits for TIME", 1, () -> m.count(8));
        Check.state(m, "one waits", 0, 1, 3, 2, 1);
        Check.due("run(1)", ChannelMachine.MORE, () -> m.run(1));
        Check.due("two wait for TIME", 2, () -> m.count(8));
        Check.state(m, "two wait", 0, 0, 3, 3, 1);
        Check.due("run(1)", ChannelMachine.MORE, () -> m.run(1));
        Check.state(m, "one has ended", 3, 0, 2, 4, 1);
        Check.due("one waits for TIME", 1, () -> m.count(8));
        Check.due("run(1)", ChannelMachine.ENDED, () -> m.run(1));
        Check.state(m, "over", 5, 0, 0, 5, 2);
        ChannelMachine last = Check.loaded("@5");
        Check.due("run(1)", ChannelMachine.MORE, () -> last.run(1));
        Check.state(last, "the delay has begun", 0, 0, 1, 1, 1);
        Check.due("run(1) without an ACT", ChannelMachine.ENDED, () -> last.run(1));
        Check.state(last, "the delay is over", 5, 0, 0, 1, 2);
    }

    private static void comesBeforeTheHostAndTheDeadlock() {
        ChannelMachine m = Check.loaded("{@7I?a}");
        Check.due("run(9)", ChannelMachine.HOST, () -> m.run(9));
        Check.state(m, "only the host is left", 7, 0, 2, 3, 1);
        ChannelMachine dead = Check.loaded("{(@4A!1)#}");
        Check.outOfState("run(9)", () -> dead.run(9));
        Check.state(dead, "broken", 4, 0, 0, 4, 3);
    }

    private static void growsBeyondLongDelays() {
        ChannelMachine m = Check.loaded("{(@aO!1@aO!2)(@a@1O!3)}");
        m.set(0, Integer.MAX_VALUE);
        Check.due("run(99)", ChannelMachine.ENDED, () -> m.run(99));
        Check.box(m, "long delays", 1, 3, 2);
    }
}
