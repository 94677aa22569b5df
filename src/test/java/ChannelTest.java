/** Promise 9. */
final class ChannelTest {
    public static void main(String[] args) {
        tellsWhoWaits();
        tellsOfTheHostsChannels();
        tellsNothingWithoutAProgramToBeRun();
        refusesWrongNumbers();
        Check.finish();
    }

    private static void waiting(ChannelMachine m, String when, int... due) {
        for (int c = 0; c < due.length; c++) {
            int number = c;
            Check.due(when + ": channel(" + c + ")", due[c], () -> m.channel(number));
        }
    }

    private static void tellsWhoWaits() {
        ChannelMachine m = Check.loaded("{A?aB!1(C?b.)(D!2.)}");
        waiting(m, "loaded", 0, 0, 0, 0, 0, 0);
        m.run(3);
        waiting(m, "two wait", 1, 2, 0, 0, 0, 0);
        m.run(2);
        waiting(m, "four wait", 1, 2, 1, 2, 0, 0);
        ChannelMachine met = Check.loaded("{(A?a.)(A!1B!2)(B?a.)}");
        met.run(2);
        waiting(met, "the input waits", 1, 0, 0, 0, 0, 0);
        met.run(1);
        waiting(met, "they have met", 0, 0, 0, 0, 0, 0);
        met.run(1);
        waiting(met, "the output waits", 0, 2, 0, 0, 0, 0);
        met.run(1);
        waiting(met, "they have met again", 0, 0, 0, 0, 0, 0);
    }

    private static void tellsOfTheHostsChannels() {
        ChannelMachine m = Check.loaded("{^1,O!1I?a}");
        m.give(1);
        m.run(50);
        waiting(m, "no input waits", 0, 0, 0, 0, 0, 2);
        ChannelMachine both = Check.loaded("{^1,O!1I?a}");
        Check.due("run(50)", ChannelMachine.HOST, () -> both.run(50));
        waiting(both, "both wait", 0, 0, 0, 0, 1, 2);
        both.take();
        waiting(both, "taken", 0, 0, 0, 0, 1, 0);
        both.give(1);
        waiting(both, "given", 0, 0, 0, 0, 0, 0);
    }

    private static void tellsNothingWithoutAProgramToBeRun() {
        ChannelMachine m = Check.loaded("{A?aB!1I?b(@1c:1/0)}");
        Check.due("run(5)", ChannelMachine.MORE, () -> m.run(5));
        waiting(m, "three wait", 1, 2, 0, 0, 1, 0);
        Check.arithmetic("run(1)", () -> m.run(1));
        waiting(m, "broken", 0, 0, 0, 0, 0, 0);
        Check.type(m, "@1");
        m.load();
        m.run(9);
        waiting(m, "over", 0, 0, 0, 0, 0, 0);
    }

    private static void refusesWrongNumbers() {
        ChannelMachine m = new ChannelMachine();
        for (int c : new int[] {-1, 6, Integer.MIN_VALUE, Integer.MAX_VALUE}) {
            Check.bad("channel(" + c + ")", () -> m.channel(c));
        }
    }
}
