/** The boundary cases that "Terms" names of texts, expressions and processes: a method for each sentence. */
final class TextEdgesTest {
    private static final String LEAST = "-2147483648";
    private static final String GREATEST = "2147483647";

    public static void main(String[] args) {
        lengthOfTexts();
        namesOfVariables();
        variablesAreInts();
        namesOfChannels();
        anyNumberOrMissing();
        comparisons();
        sums();
        products();
        digits();
        unaries();
        leftBeforeRight();
        wrapping();
        oneOrZero();
        towardsZero();
        byZero();
        depthOfUnaries();
        outputs();
        inputs();
        sequences();
        parallels();
        loops();
        conditions();
        delays();
        alternatives();
        guards();
        depthOfProcesses();
        oneProcess();
        Check.finish();
    }

    private static void reads(String text, int processes) {
        Script.reads(text, processes);
    }

    private static void refuses(String text, int place) {
        Script.refuses(text, place);
    }

    /** a gets the expression's value, where b and c have these. */
    private static void worth(String expression, String b, String c, String value) {
        Script.play("load a:" + expression + " 1; set 1 " + b + " DONE; set 2 " + c + " DONE; run 1 ENDED; variable 0 " + value);
    }

    private static void worth(String expression, int value) {
        worth(expression, "0", "0", "" + value);
    }

    private static void lengthOfTexts() {
        Script.sentence("TEXT: at most 72 characters.");
        Script.play("load (" + ".".repeat(70) + ") 71; run 200 ENDED; count 4 70");
        Script.play("type (" + ".".repeat(70) + ") 72; type . STATE; load 71");
        Script.play("type (" + ".".repeat(69) + ") 71; type . 72; type . STATE; load BAD; count 0 71");
    }

    private static void namesOfVariables() {
        Script.sentence("Names a .. f are VARIABLES");
        Script.play("load (a:1b:2c:3d:4e:5f:6) 7; run 6 ENDED; variables 1 2 3 4 5 6");
        Script.play("load (f:ae:bd:c) 4; set 0 7 DONE; set 1 8 DONE; set 2 9 DONE; run 3 ENDED; variables 7 8 9 9 8 7");
        Script.play("load (I?aI?f) 3; give 5 1; give 6 2; run 2 ENDED; variables 5 0 0 0 0 6");
        for (String name : new String[] {"`", "g", "z", "_"}) {
            refuses(name + ":1", 0);
            refuses("a:" + name, 2);
            refuses("A?" + name, 2);
            refuses("a:1+" + name, 4);
        }
    }

    private static void variablesAreInts() {
        Script.sentence("(ints, 0 at first, shared by all)");
        Script.play("variables 0 0 0 0 0 0; load O!a+b+c+d+e+f 1; variables 0 0 0 0 0 0; run 1 ENDED; box 0");
        Script.play("load (b:ac:d) 3; set 0 " + LEAST + " DONE; set 3 " + GREATEST + " DONE; run 2 ENDED; variables "
            + LEAST + " " + LEAST + " " + GREATEST + " " + GREATEST);
        Script.play("load {(a:7)(O!a){O!a+1}} 7; run 9 ENDED; box 7 8");
    }

    private static void namesOfChannels() {
        Script.sentence("A .. D CHANNELS between processes, I and O those from and to the host");
        for (String name : new String[] {"A", "B", "C", "D"}) {
            reads(name + "!1", 1);
            reads(name + "?a", 1);
            reads("[1&" + name + "?a,.]", 2);
        }
        reads("I?a", 1);
        reads("O!1", 1);
        for (String name : new String[] {"E", "H", "J", "N", "P", "Z"}) {
            refuses(name + "!1", 0);
            refuses(name + "?a", 0);
            refuses("[1&" + name + "?a,.]", 3);
        }
        refuses("@!1", 1);
        refuses("[1&@?a,.]", 3);
        Script.play("load {(A!1B!2)(C!3D!4)(C?cD?d)(A?aB?b)} 13; run 50 ENDED; variables 1 2 3 4");
        Script.play("load (I?aO!a) 3; give 5 1; run 2 ENDED; box 5");
    }

    private static void anyNumberOrMissing() {
        Script.sentence("x* means any number of times, x? that it may be missing.");
        reads("()", 1);
        reads("{}", 1);
        reads("[]", 1);
        reads("(.)", 2);
        reads("{.}", 2);
        reads("[1&.,.]", 2);
        reads("a:1", 1);
        reads("a:1<2", 1);
    }

    private static void comparisons() {
        Script.sentence("An EXPRESSION: SUM ((< or =) SUM)?");
        reads("a:1+2", 1);
        reads("a:1+2<3+4", 1);
        reads("a:1+2=3+4", 1);
        reads("a:(1<2)<(3=4)", 1);
        refuses("a:1<2<3", 5);
        refuses("a:1<2=3", 5);
        refuses("a:1=2<3", 5);
        refuses("a:1=2=3", 5);
        refuses("a:(1<2<3)", 6);
        refuses("a:<1", 2);
        refuses("a:=1", 2);
        refuses("a:1<", 4);
        refuses("a:1=", 4);
        refuses("a:1==2", 4);
        refuses("a:1>2", 3);
    }

    private static void sums() {
        Script.sentence("SUM: PRODUCT ((+ or -) PRODUCT)*");
        worth("7", 7);
        worth("1" + "+1".repeat(34), 35);
        worth("1" + "-1".repeat(34), -33);
        refuses("a:1" + "+1".repeat(34) + "+", 72);
        refuses("a:+1", 2);
        refuses("a:1+", 4);
        refuses("a:1-", 4);
        refuses("a:1++1", 4);
        refuses("a:1-+1", 4);
    }

    private static void products() {
        Script.sentence("PRODUCT: UNARY ((* or / or %) UNARY)*");
        worth("2" + "*2".repeat(29), 1 << 30);
        worth("999" + "/1".repeat(33), 999);
        worth("999" + "%7".repeat(33), 5);
        refuses("a:1" + "*1".repeat(34) + "*", 72);
        for (String sign : new String[] {"*", "/", "%"}) {
            reads("a:1" + sign + "-1", 1);
            refuses("a:" + sign + "1", 2);
            refuses("a:1" + sign, 4);
            refuses("a:1" + sign + "+1", 4);
            refuses("a:1" + sign + sign + "1", 4);
        }
    }

    private static void digits() {
        Script.sentence("UNARY: one to three digits");
        worth("0", 0);
        worth("9", 9);
        worth("10", 10);
        worth("000", 0);
        worth("007", 7);
        worth("999", 999);
        refuses("a:", 2);
        refuses("a:1000", 5);
        refuses("a:0000", 5);
        refuses("a:b+1234", 7);
        refuses("a:/", 2);
        refuses("a::", 2);
        refuses("a:1:", 3);
        refuses("a:b1", 3);
        refuses("a:1b", 3);
    }

    private static void unaries() {
        Script.sentence("a VARIABLE; - UNARY; ( EXPRESSION )");
        worth("b", "5", "0", "5");
        worth("-b", "5", "0", "-5");
        worth("--b", "5", "0", "5");
        worth("(b)", "5", "0", "5");
        worth("-(b-7)", "5", "0", "2");
        worth("-b-7", "5", "0", "-12");
        worth("-b/2", LEAST, "0", "-1073741824");
        worth("(b<7)", "5", "0", "1");
        refuses("a:-", 3);
        refuses("a:-)", 3);
        refuses("a:-*", 3);
        refuses("a:(", 3);
        refuses("a:()", 3);
        refuses("a:(b", 4);
        refuses("a:(b]", 4);
        refuses("a:b)", 3);
        refuses("a:(b))", 5);
        refuses("a:bc", 3);
    }

    private static void leftBeforeRight() {
        Script.sentence("Left before right");
        worth("9-3-2", 4);
        worth("2-3+4", 3);
        worth("100/10/5", 2);
        worth("100/10*5", 50);
        worth("7*3/2", 10);
        worth("100%30%4", 2);
        worth("100%30*4", 40);
        worth("2+3*4-5", 9);
        worth("-2*3", -6);
        worth("2<3+4", 1);
        worth("b<c", "1", "2", "1");
        worth("b<c", "2", "1", "0");
    }

    private static void wrapping() {
        Script.sentence("ints wrapping");
        worth("b+1", GREATEST, "0", LEAST);
        worth("b+c", LEAST, LEAST, "0");
        worth("b-1", LEAST, "0", GREATEST);
        worth("-b", LEAST, "0", LEAST);
        worth("-b", GREATEST, "0", "-2147483647");
        worth("b*c", "65536", "65536", "0");
        worth("b*c", "65536", "32768", LEAST);
        worth("b*c", LEAST, "-1", LEAST);
        worth("b/c", LEAST, "-1", LEAST);
        worth("b%c", LEAST, "-1", "0");
        worth("b+1<b", GREATEST, "0", "1");
        worth("b-c", GREATEST, "-1", LEAST);
    }

    private static void oneOrZero() {
        Script.sentence("< and = give 1 or 0");
        worth("b<c", "5", "6", "1");
        worth("b<c", "6", "6", "0");
        worth("b<c", "7", "6", "0");
        worth("b<c", LEAST, GREATEST, "1");
        worth("b<c", GREATEST, LEAST, "0");
        worth("b=c", "6", "6", "1");
        worth("b=c", "6", "-6", "0");
        worth("b=c", LEAST, LEAST, "1");
        worth("(b<c)+(b=c)", "1", "1", "1");
    }

    private static void towardsZero() {
        Script.sentence("/ and % towards zero");
        worth("b/c", "7", "2", "3");
        worth("b/c", "-7", "2", "-3");
        worth("b/c", "7", "-2", "-3");
        worth("b/c", "-7", "-2", "3");
        worth("b%c", "7", "2", "1");
        worth("b%c", "-7", "2", "-1");
        worth("b%c", "7", "-2", "1");
        worth("b%c", "-7", "-2", "-1");
        worth("b/c", "1", "2", "0");
        worth("b/c", "-1", "2", "0");
        worth("b/c", "0", "-5", "0");
        worth("b%c", "0", "-5", "0");
        worth("b/c", LEAST, GREATEST, "-1");
        worth("b%c", LEAST, GREATEST, "-1");
    }

    private static void byZero() {
        Script.sentence("by 0: ArithmeticException");
        for (String expression : new String[] {"1/0", "1%0", "0/0", "0%0", "b/c", "1/-0", "1/(b-5)", "0*(1/0)", "1+2%0",
            "0<1/0", "1/0=0", "-(1%0)", "1/0/1", "1%0*0"}) {
            Script.play("load a:" + expression + " 1; set 0 7 DONE; set 1 5 DONE; run 1 ARITHMETIC; variables 7 5; "
                + "counts 0 0 0 1 0 0 3 0");
        }
        Script.play("load a:b/c 1; set 1 " + LEAST + " DONE; run 1 ARITHMETIC; count 7 3");
    }

    private static void depthOfUnaries() {
        Script.sentence("UNARYS stand at most 5 deep in one another.");
        worth("----7", 7);
        worth("((((7))))", 7);
        worth("-(-(7))", 7);
        worth("((((b))))", "5", "0", "5");
        worth("----1+----2*----3<----8", 1);
        worth("((((1+2))))*((((3-4))))", -3);
        worth("5-4*(5-4*(5-4*(5-4*(5-4*2))))", -1023);
        worth("0<1-1*(0<1-1*(0<1-1*(0<1-1*(0<1-1*0))))", 1);
        refuses("a:-----7", 6);
        refuses("a:(((((7", 6);
        refuses("a:(((((", 6);
        refuses("a:-(-((7", 6);
        refuses("a:((((-7", 6);
        refuses("a:----(7", 6);
        refuses("a:1+-----7", 8);
        refuses("a:1*(((((7", 8);
        refuses("a:1<-----7", 8);
        refuses("a:((((1))))+(((((1", 16);
        refuses("A!-----1", 6);
        refuses("@-----1", 5);
        refuses("^-----1", 5);
        refuses("?-----1", 5);
        refuses("[-----1", 5);
    }

    private static void outputs() {
        Script.sentence("CHANNEL ! EXPRESSION, an OUTPUT (not on I).");
        for (String name : new String[] {"A", "B", "C", "D", "O"}) {
            reads(name + "!1", 1);
            refuses(name, 1);
            refuses(name + "!", 2);
            refuses(name + "!!", 2);
            refuses(name + "!.", 2);
        }
        refuses("I!1", 1);
        refuses("I!", 1);
        refuses("I", 1);
    }

    private static void inputs() {
        Script.sentence("CHANNEL ? VARIABLE, an INPUT (not on O).");
        for (String name : new String[] {"A", "B", "C", "D", "I"}) {
            reads(name + "?f", 1);
            refuses(name + "?", 2);
            refuses(name + "?1", 2);
            refuses(name + "?(a)", 2);
            refuses(name + "?ab", 3);
        }
        refuses("O?a", 1);
        refuses("O?", 1);
    }

    private static void sequences() {
        Script.sentence("( PROCESS* ) a SEQUENCE.");
        reads("()", 1);
        reads("(.)", 2);
        reads("(" + ".".repeat(70) + ")", 71);
        reads("(" + "()".repeat(35) + ")", 36);
        refuses("(", 1);
        refuses("(.", 2);
        refuses("(,)", 1);
        refuses("(.,.)", 2);
        refuses("(}", 1);
        refuses("(.]", 2);
        refuses("())", 2);
    }

    private static void parallels() {
        Script.sentence("{ PROCESS* } PARALLEL, of at most 4.");
        for (int parts = 0; parts <= 4; parts++) {
            reads("{" + ".".repeat(parts) + "}", parts + 1);
            reads("{" + "()".repeat(parts) + "}", parts + 1);
            refuses("{" + ".".repeat(parts), parts + 1);
        }
        refuses("{.....}", 5);
        refuses("{()()()()()}", 9);
        refuses("{....a:1}", 5);
        refuses("{....)", 5);
        reads("{{....}{....}{....}{....}}", 21);
        reads("{(.....)(.....)}", 13);
        refuses("{(.....)....}", 11);
        refuses("{)", 1);
        refuses("{.]", 2);
    }

    private static void loops() {
        Script.sentence("^ EXPRESSION , PROCESS a LOOP.");
        reads("^1,.", 2);
        reads("^a<1,()", 2);
        refuses("^", 1);
        refuses("^,.", 1);
        refuses("^1", 2);
        refuses("^1.", 2);
        refuses("^1,", 3);
        refuses("^1,)", 3);
        refuses("^1,,", 3);
        refuses("^1,.,", 4);
        refuses("^1,..", 4);
    }

    private static void conditions() {
        Script.sentence("? EXPRESSION , PROCESS , PROCESS a CONDITION.");
        reads("?1,.,.", 3);
        reads("?a=b,(),()", 3);
        refuses("?", 1);
        refuses("?,.,.", 1);
        refuses("?1", 2);
        refuses("?1.", 2);
        refuses("?1,", 3);
        refuses("?1,,.", 3);
        refuses("?1,.", 4);
        refuses("?1,..", 4);
        refuses("?1,.,", 5);
        refuses("?1,.,)", 5);
        refuses("?1,.,.,", 6);
        refuses("?1,.,..", 6);
    }

    private static void delays() {
        Script.sentence("VARIABLE : EXPRESSION, an ASSIGNMENT. . nothing. # STOP. @ EXPRESSION a DELAY.");
        reads("@0", 1);
        reads("@-1", 1);
        refuses("@", 1);
        refuses("@.", 1);
        refuses("@1.", 2);
        reads("f:0", 1);
        refuses("a", 1);
        refuses("a=1", 1);
        refuses("a:.", 2);
        refuses(".1", 1);
        refuses("#1", 1);
        refuses("##", 1);
    }

    private static void alternatives() {
        Script.sentence("[ GUARD* ] an ALTERNATIVE, of at most 4");
        for (int parts = 0; parts <= 4; parts++) {
            reads("[" + "1&.,.".repeat(parts) + "]", parts + 1);
            reads("[" + "1&A?a,.".repeat(parts) + "]", parts + 1);
            refuses("[" + "1&.,.".repeat(parts), 5 * parts + 1);
        }
        refuses("[1&.,.1&.,.1&.,.1&.,.1&.,.]", 21);
        refuses("[1&.,.1&.,.1&.,.1&.,.(", 21);
        refuses("[1&.,.1&.,.1&.,.1&.,.)", 21);
        reads("[1&.,[1&.,.1&.,.1&.,.]1&.,[1&.,.1&.,.1&.,.]]", 9);
        refuses("[)", 1);
        refuses("[1&.,.}", 6);
    }

    private static void guards() {
        Script.sentence("a GUARD: EXPRESSION & INPUT , PROCESS, or EXPRESSION & . , PROCESS.");
        reads("[a<1&I?f,()]", 2);
        reads("[a<1&.,()]", 2);
        refuses("[&.,.]", 1);
        refuses("[.,.]", 1);
        refuses("[1", 2);
        refuses("[1,.]", 2);
        refuses("[1&", 3);
        refuses("[1&&.,.]", 3);
        refuses("[1&,.]", 3);
        refuses("[1&],.]", 3);
        refuses("[1&O?a,.]", 3);
        refuses("[1&O!1,.]", 3);
        refuses("[1&#,.]", 3);
        refuses("[1&a:1,.]", 3);
        refuses("[1&(.),.]", 3);
        refuses("[1&A", 4);
        refuses("[1&A!1,.]", 4);
        refuses("[1&I!1,.]", 4);
        refuses("[1&A?1,.]", 5);
        refuses("[1&A?,.]", 5);
        refuses("[1&A?a.]", 6);
        refuses("[1&A?a]", 6);
        refuses("[1&..]", 4);
        refuses("[1&.]", 4);
        refuses("[1&.,]", 5);
        refuses("[1&.,1&.,.]", 5);
        refuses("[1&.,.,]", 6);
    }

    private static void depthOfProcesses() {
        Script.sentence("PROCESSES stand at most 7 deep in one another (the outermost is at depth 1).");
        for (String process : new String[] {".", "#", "a:1", "A!1", "A?a", "@1", "()", "{}", "[]"}) {
            reads("((((((" + process + "))))))", 7);
            refuses("(((((((" + process + ")))))))", 7);
            refuses("{{{{{{{" + process + "}}}}}}}", 7);
        }
        reads("((((((...))))))", 9);
        reads("((((((.).).).).).)", 12);
        reads("{{{{{{{}}}}}}}", 7);
        refuses("(((((((", 7);
        refuses("((((((((", 7);
        reads("^1,".repeat(6) + ".", 7);
        refuses("^1,".repeat(6) + "^1,.", 18);
        refuses("^1,".repeat(6) + "?", 18);
        reads("?1,".repeat(6) + "." + ",.".repeat(6), 13);
        refuses("?1,".repeat(6) + "?1,.,.", 18);
        reads("?1,.,".repeat(6) + ".", 13);
        refuses("?1,.,".repeat(6) + "?1,.,.", 30);
        refuses("?1,.,".repeat(6) + "^1,.", 30);
        reads("[1&.,".repeat(6) + "." + "]".repeat(6), 7);
        reads("[1&.,".repeat(6) + "[]" + "]".repeat(6), 7);
        refuses("[1&.,".repeat(6) + "[1&.,.]", 31);
        refuses("[1&A?a,".repeat(6) + "[1&.,.]", 43);
        refuses("[1&.,".repeat(6) + "^", 30);
        refuses("((((([1&.,.1&A?a,^", 17);
    }

    private static void oneProcess() {
        Script.sentence("A program is one PROCESS.");
        reads(".", 1);
        refuses("", 0);
        refuses("..", 1);
        refuses("().", 2);
        refuses("{}{}", 2);
        refuses("a:1b:2", 3);
        refuses("^1,.#", 4);
        refuses("?1,.,.a", 6);
        refuses("[][]", 2);
        refuses("1", 0);
        refuses("1&.,.", 0);
    }
}
