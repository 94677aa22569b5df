/** Promise 4: the ALTERNATIVE. */
final class ChoiceTest {
    public static void main(String[] args) {
        takesTheFirstThatIsReady();
        waitsOnAllOpenChannels();
        forgetsEarlierGuards();
        firstOpenOneStandsForItsChannel();
        talksToTheHost();
        waitsForEver();
        goesOnBehindTheLastBracket();
        Check.finish();
    }

    private static void ends(String text, int acts, int... box) {
        ChannelMachine m = Check.loaded(text);
        Check.due("run of " + text, ChannelMachine.ENDED, () -> m.run(200));
        Check.state(m, text, 0, 0, 0, acts, 2);
        Check.box(m, text, box);
    }

    private static void takesTheFirstThatIsReady() {
        ends("[1&.,O!a+1a=0&.,O!2]", 2, 1);
        ends("[0&.,(O!1)-1&.,O!2]", 2, 2);
        ends("[1&A?a,#1&.,O!2]", 2, 2);
        ends("{A!3[1&B?b,#1&A?a,O!a]}", 4, 3);
        ends("{A!3[1&A?a,O!a1&.,#]}", 4, 3);
        ends("{(A!3)[0&A?a,#1&.,(O!4A?bO!b)]}", 6, 4, 3);
        ends("{(A!3O!1)[1&A?a,O!a]}", 5, 3, 1);
        ends("{A!1B!2[1&B?a,O!a1&A?b,#](.A?c)}", 7, 2);
    }

    private static void waitsOnAllOpenChannels() {
        ChannelMachine m = Check.loaded("{[1&A?a,O!a0&B?b,.1&C?c,.1&I?d,.](A!1C!2)}");
        Check.due("run(2)", ChannelMachine.MORE, () -> m.run(2));
        int[] waiting = {1, 0, 1, 0, 1, 0};
        for (int c = 0; c < 6; c++) {
            int number = c;
            Check.due("channel(" + c + ") while it waits", waiting[c], () -> m.channel(number));
        }
        Check.due("run(1)", ChannelMachine.MORE, () -> m.run(1));
        for (int c = 0; c < 6; c++) {
            int number = c;
            Check.due("channel(" + c + ") after the meeting", 0, () -> m.channel(number));
        }
        Check.variables(m, "the meeting", 1, 0, 0, 0);
        Check.due("give(5) is for nobody", 1, () -> m.give(5));
        Check.due("run(1)", ChannelMachine.MORE, () -> m.run(1));
        Check.due("the second output waits", 2, () -> m.channel(2));
        Check.outOfState("run(9)", () -> m.run(9));
        Check.box(m, "broken", 1);
    }

    private static void forgetsEarlierGuards() {
        ChannelMachine m = Check.loaded("{([1&A?a,.1&B?b,.][1&C?c,.])A!1.}");
        Check.due("run(6)", ChannelMachine.MORE, () -> m.run(6));
        Check.due("nobody waits at A", 0, () -> m.channel(0));
        Check.due("nobody waits at B", 0, () -> m.channel(1));
        Check.due("one waits at C", 1, () -> m.channel(2));
    }

    private static void firstOpenOneStandsForItsChannel() {
        ends("{[0&A?a,#1&A?b,O!b1&A?c,#]A!5}", 4, 5);
        ends("{[1&A?a,O!a1&B?b,O!b+1](@0B!6)}", 5, 7);
    }

    private static void talksToTheHost() {
        ChannelMachine m = Check.loaded("^1,[a<2&I?a,O!a1&I?b,O!b*2]");
        Check.due("run(9)", ChannelMachine.HOST, () -> m.run(9));
        Check.due("it waits at I", 1, () -> m.channel(4));
        Check.due("give(5)", 0, () -> m.give(5));
        Check.due("nobody waits at I", 0, () -> m.channel(4));
        Check.due("give(6)", 1, () -> m.give(6));
        Check.due("run(9)", ChannelMachine.HOST, () -> m.run(9));
        Check.variables(m, "two gifts", 5, 6);
        Check.box(m, "two gifts", 5, 12);
    }

    private static void waitsForEver() {
        ChannelMachine m = Check.loaded("{[0&I?a,.0&.,.](O!1I?b)}");
        Check.due("run(9)", ChannelMachine.HOST, () -> m.run(9));
        Check.due("give(1)", 0, () -> m.give(1));
        Check.outOfState("run(9)", () -> m.run(9));
        Check.variables(m, "broken", 0, 1);
    }

    private static void goesOnBehindTheLastBracket() {
        ends("([1&.,O!a0&.,.0&.,.]O!1)", 3, 0, 1);
        ends("([0&.,.1&.,[0&.,.1&.,O!a]0&.,.]O!1)", 4, 0, 1);
        ends("[1&.,[1&.,()]0&.,.]", 2);
        ends("(?1,[1&.,.0&.,#],#O!1)", 4, 1);
        ends("(^a<2,[1&.,a:(a+1)0&.,#]O!1)", 8, 1);
    }
}
