/** Promise 3: what is a program, how many processes it has, and where a text stops being one. */
final class LoadTest {
    public static void main(String[] args) {
        readsProcesses();
        readsProgramsWithoutAct();
        readsExpressions();
        readsToTheLimits();
        tellsWhereProcessesGoWrong();
        tellsWhereExpressionsGoWrong();
        tellsWhereGuardsGoWrong();
        tellsWhereItIsTooDeep();
        tellsWhereThereAreTooMany();
        readsExpressionsAsFarAsTheyGo();
        keepsTheOldProgram();
        startsAnew();
        startsAnewManyTimes();
        startsAnewWithoutAct();
        Check.finish();
    }

    private static ChannelMachine read(String text, int processes) {
        ChannelMachine m = new ChannelMachine();
        Check.type(m, text);
        Check.due("load() of " + text, processes, m::load);
        Check.due("THE PLACE after " + text, -1, () -> m.count(0));
        Check.due("the text after " + text, 0, () -> m.type(0));
        return m;
    }

    private static void reads(String text, int processes) {
        Check.state(read(text, processes), text, 0, 1, 1, 0, 1);
    }

    /** The program is over as soon as it is read. */
    private static void readsWithoutAct(String text, int processes) {
        Check.state(read(text, processes), text, 0, 0, 0, 0, 2);
    }

    private static void refuses(String text, int place) {
        ChannelMachine m = new ChannelMachine();
        Check.type(m, text);
        Check.bad("load() of " + text, m::load);
        Check.due("THE PLACE of " + text, place, () -> m.count(0));
        Check.due("the text after " + text, 0, () -> m.type(0));
        Check.state(m, text, 0, 0, 0, 0, 0);
    }

    private static void readsProcesses() {
        for (String text : new String[] {".", "#", "{}", "[]", "a:1", "f:0", "A!1", "D!f", "O!1", "A?a",
            "D?f", "I?a", "@5"}) {
            reads(text, 1);
        }
        reads("(.#.)", 4);
        reads("(()(.))", 4);
        reads("{.#.}", 4);
        reads("{()}", 2);
        reads("^a,()", 2);
        reads("^a,.", 2);
        reads("^a,^b,#", 3);
        reads("?a,.,#", 3);
        reads("?a,?b,.,#,()", 5);
        reads("[1&I?a,.]", 2);
        reads("[1&.,.0&D?a,#]", 3);
        reads("[1&.,[]1&.,[1&A?a,{..}]]", 6);
        reads("(a:bA!cB?d^e,.?f,.,.@1[]{})", 12);
        reads("(a:12b:3)", 3);
        reads("(a:b?c,.,.)", 5);
        reads("(A?a?c,.,.)", 5);
    }

    private static void readsProgramsWithoutAct() {
        readsWithoutAct("()", 1);
        readsWithoutAct("(())", 2);
        readsWithoutAct("(()())", 3);
        readsWithoutAct("(()(()))", 4);
        readsWithoutAct("((())())", 4);
        readsWithoutAct("((((((()))))))", 7);
        readsWithoutAct("(" + "()".repeat(35) + ")", 36);
        reads("((())().)", 5);
        reads("(.(()))", 4);
        reads("(()({}))", 4);
    }

    private static void readsExpressions() {
        for (String text : new String[] {"a:1+2*3-4/5%6<7", "a:(1<2)=(3=4)", "a:b--c", "a:-b*-c", "a:((1))",
            "a:999", "a:007", "a:1=-2", "a:f-(e+d)*c"}) {
            reads(text, 1);
        }
    }

    private static void readsToTheLimits() {
        reads("a:----1", 1);
        reads("a:((((1))))", 1);
        reads("a:-(-(b))", 1);
        reads("a:((((1+2*3<4))))+((((5))))", 1);
        reads("((((((.))))))", 7);
        reads("(((((({}))))))", 7);
        reads("{{{{{{{}}}}}}}", 7);
        reads("(((((([]))))))", 7);
        reads("((((((.#a:1))))))", 9);
        reads("(((((^1,.)))))", 7);
        reads("(((((?1,.,.)))))", 8);
        reads("((((([1&.,.])))))", 7);
        reads("^1,^1,^1,^1,^1,^1,@1", 7);
        reads("{....}", 5);
        reads("[1&.,.1&.,.1&.,.1&.,.]", 5);
        reads("(" + ".".repeat(70) + ")", 71);
        reads("{" + "{....}".repeat(4) + "}", 21);
        reads("{" + "{{..}{...}}".repeat(4) + "}", 33);
    }

    private static void tellsWhereProcessesGoWrong() {
        refuses("", 0);
        for (String text : new String[] {")", "~", "g:1", "E!1", "1", "-", ",", "&", ":", "!", "}", "]", "H?a"}) {
            refuses(text, 0);
        }
        for (String text : new String[] {"a", "A", "I", "O", "(", "{", "[", "@", "^", "?", "..", "aA!1", "a1", "a=1",
            "A:1", "O?a", "I!a", "AA!1", "(]", "(}", "{)", "[)", "@,", "@)", "^,", "?,", "#.", "(1", "{-"}) {
            refuses(text, 1);
        }
        for (String text : new String[] {"a:", "A!", "A?", "A!!", "A?1", "A?A", "A?g", "a:)", "a:A", "a:.", "@1,",
            "^1", "^1.", "?1", "?1;", "()()", "(.", "{.", "{.]", "(.,)"}) {
            refuses(text, 2);
        }
        refuses("A?a?", 3);
        refuses("A?aa", 3);
        refuses("^1,", 3);
        refuses("^1,)", 3);
        refuses("^1,.,", 4);
        refuses("?1,.", 4);
        refuses("?1,..", 4);
        refuses("?1,.,", 5);
        refuses("?1,.,.,", 6);
        refuses("(a:b:1)", 4);
        refuses("(a:1" + "b:2".repeat(22), 70);
        refuses("(" + ".".repeat(71), 72);
    }

    private static void tellsWhereExpressionsGoWrong() {
        refuses("a:1+", 4);
        refuses("a:1+*", 4);
        refuses("a:1++2", 4);
        refuses("a:*1", 2);
        refuses("a:1*", 4);
        refuses("a:1/)", 4);
        refuses("a:(1%)", 5);
        refuses("a:1234", 5);
        refuses("a:b1", 3);
        refuses("a:1b", 3);
        refuses("a:bb", 3);
        refuses("a:(", 3);
        refuses("a:()", 3);
        refuses("a:(1", 4);
        refuses("a:(1]", 4);
        refuses("a:1)", 3);
        refuses("a:1<", 4);
        refuses("a:1<<2", 4);
        refuses("a:1==2", 4);
        refuses("a:1<2<3", 5);
        refuses("a:1<2=3", 5);
        refuses("a:(1<2=3)", 6);
        refuses("@1<2<3", 4);
    }

    private static void tellsWhereGuardsGoWrong() {
        refuses("[.]", 1);
        refuses("[()", 2);
        refuses("[1", 2);
        refuses("[1,.]", 2);
        refuses("[1&", 3);
        refuses("[1&#,.]", 3);
        refuses("[1&,.]", 3);
        refuses("[1&O?a,.]", 3);
        refuses("[1&O!1,.]", 3);
        refuses("[1&(),.]", 3);
        refuses("[1&a:1,.]", 3);
        refuses("[1&A", 4);
        refuses("[1&A!1,.]", 4);
        refuses("[1&I!1,.]", 4);
        refuses("[1&..]", 4);
        refuses("[1&A?", 5);
        refuses("[1&A?1", 5);
        refuses("[1&A?a", 6);
        refuses("[1&A?a.]", 6);
        refuses("[1&A?a,", 7);
        refuses("[1&A?a,]", 7);
        refuses("[1&A?a,.", 8);
        refuses("[1&A?a,.,", 8);
        refuses("[1&A?a,.)", 8);
    }

    private static void tellsWhereItIsTooDeep() {
        refuses("(((((((.", 7);
        refuses("(((((((", 7);
        refuses("((((((((", 7);
        refuses("(((((((]", 7);
        refuses("(((((({.", 7);
        refuses("{{{{{{{.", 7);
        refuses("(((((([1", 7);
        refuses("(((((([.", 7);
        refuses("((((((^", 6);
        refuses("((((((?", 6);
        refuses("(((((^1,^1,.)))))", 8);
        refuses("(((((?1,^1,.,.)))))", 8);
        refuses("(((((?1,.,?1,.,.)))))", 10);
        refuses("((((([1&.,^1,.])))))", 10);
        refuses("((((([1&.,[1&.,.]])))))", 11);
        refuses("^1,^1,^1,^1,^1,^1,^1,.", 18);
        refuses("a:-----1", 6);
        refuses("a:(((((1", 6);
        refuses("a:-(-(-1", 6);
        refuses("a:((((-1", 6);
        refuses("a:1+-----1", 8);
        refuses("^((((-1", 5);
        refuses("[-----1&", 5);
    }

    private static void tellsWhereThereAreTooMany() {
        refuses("{.....}", 5);
        refuses("{....", 5);
        refuses("{(.....)....}", 11);
        refuses("[1&.,.1&.,.1&.,.1&.,.1&.,.]", 21);
        refuses("[1&.,.1&.,.1&.,.1&.,.", 21);
    }

    /** An expression before a guard takes the letters that may still belong to it. */
    private static void readsExpressionsAsFarAsTheyGo() {
        reads("[1&.,a:b1&.,.]", 3);
        reads("[1&.,a:1b&.,.]", 3);
        reads("[1&.,a:1(2)&.,.]", 3);
        reads("[1&.,a:1234&.,.]", 3);
        refuses("[1&.,a:12&.,.]", 9);
        refuses("[1&.,a:b-1&.,.]", 10);
    }

    private static void keepsTheOldProgram() {
        ChannelMachine m = Check.loaded("(I?a@3O!a+1I?b@2)");
        m.give(5);
        m.give(6);
        m.run(3);
        Check.type(m, "a:9)");
        Check.bad("load() of a:9)", m::load);
        Check.due("THE PLACE", 3, () -> m.count(0));
        Check.state(m, "the old program", 3, 1, 1, 3, 1);
        Check.due("gifts", 1, () -> m.count(5));
        Check.variables(m, "the old program", 5);
        Check.due("run(9)", ChannelMachine.ENDED, () -> m.run(9));
        Check.variables(m, "the old program, over", 5, 6);
        Check.box(m, "the old program, over", 6);
        Check.bad("load() of nothing", m::load);
        Check.due("THE PLACE of the latest", 0, () -> m.count(0));
        Check.due("still over", 2, () -> m.count(7));
        Check.type(m, "a:1");
        Check.due("load() of a:1", 1, m::load);
        Check.due("THE PLACE stays", 0, () -> m.count(0));
    }

    private static void startsAnewManyTimes() {
        ChannelMachine m = new ChannelMachine();
        for (int k = 0; k < 40; k++) {
            Check.type(m, "{A?aB?bC?c#}");
            m.load();
            Check.due("run(5) of load " + k, ChannelMachine.MORE, () -> m.run(5));
            Check.due("TASKS of load " + k, 5, () -> m.count(3));
        }
        Check.type(m, "{.}");
        m.load();
        Check.due("a parent of one child", ChannelMachine.ENDED, () -> m.run(2));
    }

    /** A program that is over when it is read takes the place of the one before like any other. */
    private static void startsAnewWithoutAct() {
        ChannelMachine m = Check.loaded("{(O!7@3O!8)(I?aI?b)(A?c)@50}");
        m.give(5);
        m.set(5, 8);
        Check.due("run(8)", ChannelMachine.MORE, () -> m.run(8));
        Check.due("TIME", 3, () -> m.count(1));
        Check.type(m, "(()())");
        Check.due("load() of (()()) over one to be run", 3, m::load);
        Check.state(m, "(()())", 0, 0, 0, 0, 2);
        Check.due("nobody waits for TIME", 0, () -> m.count(8));
        Check.due("gifts", 0, () -> m.count(5));
        Check.box(m, "(()())");
        Check.variables(m, "(()())", 0, 0, 0, 0, 0, 0);
        for (int c = 0; c < 6; c++) {
            int number = c;
            Check.due("channel(" + c + ") of (()())", 0, () -> m.channel(number));
        }
        Check.type(m, "())");
        Check.bad("load() of ())", m::load);
        Check.due("THE PLACE of ())", 2, () -> m.count(0));
        Check.due("still over", 2, () -> m.count(7));
        Check.type(m, "(()a:4)");
        Check.due("load() over one without any ACT", 3, m::load);
        Check.state(m, "(()a:4)", 0, 1, 1, 0, 1);
        Check.due("run(1)", ChannelMachine.ENDED, () -> m.run(1));
        Check.variables(m, "(()a:4)", 4);
    }

    private static void startsAnew() {
        ChannelMachine m = Check.loaded("({I?a@4}(O!1^1,(A?b)))");
        m.give(5);
        m.give(6);
        m.set(5, 8);
        Check.outOfState("run(20), a deadlock", () -> m.run(20));
        Check.type(m, "(a:a+1{A?bI?c@9})");
        Check.due("load() over a broken one", 6, m::load);
        Check.variables(m, "new", 0, 0, 0, 0, 0, 0);
        Check.state(m, "new", 0, 1, 1, 0, 1);
        Check.due("gifts", 0, () -> m.count(5));
        Check.box(m, "new");
        Check.due("run(5)", ChannelMachine.MORE, () -> m.run(5));
        Check.due("tasks waiting for TIME", 1, () -> m.count(8));
        Check.type(m, "A!1");
        Check.due("load() over one to be run", 1, m::load);
        Check.due("nobody waits at A", 0, () -> m.channel(0));
        Check.due("nobody waits at I", 0, () -> m.channel(4));
        Check.due("nobody waits for TIME", 0, () -> m.count(8));
        Check.state(m, "new again", 0, 1, 1, 0, 1);
        Check.due("run(1)", ChannelMachine.MORE, () -> m.run(1));
        Check.due("the output waits", 2, () -> m.channel(0));
    }
}
