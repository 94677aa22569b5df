/** Promise 2. */
final class TypeTest {
    private static final long FULL_ROW = Check.eight("........");

    public static void main(String[] args) {
        addsTheBytesHighestFirst();
        leavesOutZeros();
        refusesWhatIsNotPrintable();
        refusesMoreThanSeventyTwo();
        isBadBeforeThereIsNoRoom();
        leavesTheProgramAlone();
        Check.finish();
    }

    private static void addsTheBytesHighestFirst() {
        ChannelMachine m = new ChannelMachine();
        Check.due("type of (a:1", 4, () -> m.type(Check.eight("(a:1")));
        Check.due("type of b:2)", 8, () -> m.type(Check.eight("b:2)")));
        Check.due("load()", 3, m::load);
        Check.due("run(2)", ChannelMachine.ENDED, () -> m.run(2));
        Check.variables(m, "typed in two parts", 1, 2);
    }

    private static void leavesOutZeros() {
        ChannelMachine m = new ChannelMachine();
        Check.due("type of a, 0, :, 0, 0, 7, 0, 0", 3, () -> m.type(0x61003A0000370000L));
        Check.due("type(0)", 3, () -> m.type(0));
        Check.due("load()", 1, m::load);
        Check.due("run(1)", ChannelMachine.ENDED, () -> m.run(1));
        Check.variables(m, "zeros left out", 7);
    }

    private static void refusesWhatIsNotPrintable() {
        ChannelMachine m = new ChannelMachine();
        Check.due("type of the least, 33", 1, () -> m.type(33));
        Check.due("type of the greatest, 126", 2, () -> m.type(126L << 56));
        for (long letter : new long[] {1, 10, 31, 32, 127, 128, 161, 255}) {
            Check.bad("type(" + letter + ")", () -> m.type(letter));
            Check.bad("type of " + letter + " at the highest place", () -> m.type(letter << 56));
            Check.bad("type of . and " + letter, () -> m.type(Check.eight(".") << 8 | letter));
        }
        Check.bad("type(-1)", () -> m.type(-1));
        Check.due("none was added", 2, () -> m.type(0));
    }

    private static void refusesMoreThanSeventyTwo() {
        ChannelMachine m = new ChannelMachine();
        for (int row = 1; row <= 8; row++) {
            int length = 8 * row;
            Check.due("row " + row, length, () -> m.type(FULL_ROW));
        }
        Check.due("one more", 65, () -> m.type(Check.eight(".")));
        Check.outOfState("eight where there is room for seven", () -> m.type(FULL_ROW));
        Check.due("five more", 70, () -> m.type(Check.eight(".....")));
        Check.outOfState("three more than there is room for", () -> m.type(Check.eight("...")));
        Check.due("none was added", 70, () -> m.type(0));
        Check.due("the last two", 72, () -> m.type(Check.eight("..")));
        Check.due("nothing has room in a full text", 72, () -> m.type(0));
        Check.outOfState("one too many", () -> m.type(Check.eight(".")));
        Check.bad("load()", m::load);
        Check.due("the text is empty then", 8, () -> m.type(FULL_ROW));
    }

    private static void isBadBeforeThereIsNoRoom() {
        ChannelMachine m = new ChannelMachine();
        for (int row = 0; row < 9; row++) {
            m.type(FULL_ROW);
        }
        Check.bad("a space in a full text", () -> m.type(32));
    }

    private static void leavesTheProgramAlone() {
        ChannelMachine m = Check.loaded("(a:1b:2)");
        Check.due("run(1)", ChannelMachine.MORE, () -> m.run(1));
        Check.due("type", 3, () -> m.type(Check.eight("a:9")));
        Check.due("run(1) more", ChannelMachine.ENDED, () -> m.run(1));
        Check.variables(m, "typed meanwhile", 1, 2);
    }
}
