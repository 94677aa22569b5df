/** Promise 1. */
final class NewObjectTest {
    public static void main(String[] args) {
        ChannelMachine m = new ChannelMachine();
        int[] counts = {-1, 0, 0, 0, 0, 0, 0, 0, 0};
        for (int what = 0; what < counts.length; what++) {
            int number = what;
            Check.due("count(" + what + ")", counts[what], () -> m.count(number));
        }
        Check.variables(m, "new", 0, 0, 0, 0, 0, 0);
        for (int c = 0; c < 6; c++) {
            int number = c;
            Check.due("channel(" + c + ")", 0, () -> m.channel(number));
        }
        Check.due("type(0), which adds none", 0, () -> m.type(0));
        Check.outOfState("run(1)", () -> m.run(1));
        Check.outOfState("give(1)", () -> m.give(1));
        Check.noElement("take()", m::take);
        Check.bad("load() of no text", m::load);
        Check.due("ENDED", 0, () -> ChannelMachine.ENDED);
        Check.due("MORE", 1, () -> ChannelMachine.MORE);
        Check.due("HOST", 2, () -> ChannelMachine.HOST);
        Check.finish();
    }
}
