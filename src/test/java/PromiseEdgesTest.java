/** The boundary cases that the promises 1 to 10 name: a method for each sentence. */
final class PromiseEdgesTest {
    private static final String LEAST = "-2147483648";
    private static final String GREATEST = "2147483647";
    private static final String FULL = "........".repeat(9);
    private static final String EIGHT = "^a<8,(a:a+1O!a)";

    public static void main(String[] args) {
        newObject();
        constants();
        badComesFirst();
        calls512();
        typeAddsBytes();
        typeLeavesOutZeros();
        typeIsBad();
        typeHasNoRoom();
        typeAddsNoneThen();
        typeAnswersTheLength();
        loadEmptiesTheText();
        placeOfACharacter();
        placeOfTheEnd();
        placesInPrograms();
        oldProgramStays();
        newProgram();
        processesOfAProgram();
        runIsBad();
        runNeedsAProgram();
        giftsInOrder();
        eightGiftsAtMost();
        giftAtOnce();
        giveNeedsAProgram();
        takeTheFirst();
        takeLetsATaskGoOn();
        takeWithoutAProgramToBeRun();
        boxIsEmpty();
        variables();
        set();
        channels();
        countThePlace();
        countTime();
        countTheQueue();
        countTasks();
        countActs();
        countGiftsAndValues();
        countTheState();
        countSleepers();
        countElse();
        countWithoutAProgramToBeRun();
        Check.finish();
    }

    private static void play(String calls) {
        Script.play(calls);
    }

    private static void newObject() {
        Script.sentence("1: No text, no program, VARIABLES and TIME 0, no gifts, an empty box.");
        play("type 0");
        play("load BAD; count 0 0");
        play("count 7 0; run 1 STATE; give 1 STATE");
        play("variables 0 0 0 0 0 0");
        play("count 0 -1; counts 0 0 0 0 0 0 0 0");
        play("channels 0 0 0 0 0 0");
        play("box");
    }

    private static void constants() {
        Script.sentence("ENDED = 0, MORE = 1, HOST = 2");
        play("load . 1; run 1 0");
        play("load (..) 3; run 1 1");
        play("load I?a 1; run 2 2");
        Check.due("ENDED", 0, () -> ChannelMachine.ENDED);
        Check.due("MORE", 1, () -> ChannelMachine.MORE);
        Check.due("HOST", 2, () -> ChannelMachine.HOST);
    }

    private static void badComesFirst() {
        Script.sentence("what needs a program, where there is none that isn't BROKEN, or has no room, are IllegalStateException;"
            + " it comes after Bad.");
        play("run 0 BAD; run 201 BAD; run 1 STATE");
        play("load . 1; run 1 ENDED; run 0 BAD; run 201 BAD; run 1 STATE");
        play("load # 1; run 2 STATE; run 0 BAD; run 201 BAD; run 1 STATE");
        play("type " + FULL + " 72; bytes 20 BAD; bytes 2E2E2E2E2E2E2E7F BAD; bytes 2E STATE");
        play("type " + FULL.substring(1) + " 71; bytes 2E2E20 BAD; bytes 2E2E STATE");
        play("type " + FULL.substring(1) + " 71; bytes 2E2E2E2E2E2E2E80 BAD; type 71");
    }

    private static void calls512() {
        Script.sentence("An object is used for at most 512 calls after it has been made");
        StringBuilder calls = new StringBuilder("bytes 5E312C28493F614F 8; bytes 21612A6129 13; load 4; run 200 HOST");
        int most = 4;
        for (int k = 0; most + 3 <= 512; k++) {
            int value = k - 80;
            calls.append("; give " + value + " 0; run 200 HOST; take " + value * value);
            most += 3;
        }
        play(calls.toString());
        StringBuilder loads = new StringBuilder("bytes 7B2323237D 5");
        for (int k = 1; k + 4 <= 512; k += 4) {
            loads.append("; load 4; run 4 MORE; count 3 4; bytes 7B2323237D 5");
        }
        play(loads.toString());
    }

    private static void typeAddsBytes() {
        Script.sentence("2: Adds the eight bytes of the number, highest first, to the text.");
        play("bytes 28613A31623A3229 8; load 3; run 2 ENDED; variables 1 2");
        play("bytes 28613A31 4; bytes 623A3229 8; load 3; run 2 ENDED; variables 1 2");
        play("bytes 7B 1; bytes 2E 2; bytes 7D 3; load 2");
        play("bytes 7D00000000000000 1; load BAD; count 0 0");
    }

    private static void typeLeavesOutZeros() {
        Script.sentence("2: those that are 0 left out");
        play("bytes 0 0; load BAD; count 0 0");
        play("bytes 61003A0000370000 3; bytes 0 3; load 1; run 1 ENDED; variable 0 7");
        play("bytes 2E00000000000000 1; load 1");
        play("bytes 2800000000000029 2; load 1");
        play("type " + FULL + " 72; bytes 0 72");
    }

    private static void typeIsBad() {
        Script.sentence("2: One not 33 .. 126: bad");
        for (int place = 0; place < 8; place++) {
            for (int letter : new int[] {1, 31, 32, 127, 128, 160, 161, 254, 255}) {
                String alone = Long.toHexString((long) letter << 8 * place);
                long others = 0x2E2E2E2E2E2E2E2EL & ~(255L << 8 * place);
                String amongOthers = Long.toHexString(others | (long) letter << 8 * place);
                play("bytes " + alone + " BAD; bytes " + amongOthers + " BAD; bytes 0 0");
            }
            for (int letter : new int[] {33, 34, 125, 126}) {
                play("bytes " + Long.toHexString((long) letter << 8 * place) + " 1");
            }
        }
        play("bytes FFFFFFFFFFFFFFFF BAD; bytes 8000000000000000 BAD; bytes 7FFFFFFFFFFFFFFF BAD; type 0");
    }

    private static void typeHasNoRoom() {
        Script.sentence("2: more than 72 in all: no room");
        String eight = "2E2E2E2E2E2E2E2E";
        for (int length = 64; length <= 72; length++) {
            for (int more = 0; more <= 8; more++) {
                String bytes = more == 0 ? "0" : eight.substring(0, 2 * more);
                String answer = length + more <= 72 ? "" + (length + more) : "STATE";
                play("type " + FULL.substring(0, length) + " " + length + "; bytes " + bytes + " " + answer);
            }
        }
        play("type " + FULL.substring(2) + " 70; bytes 2E00000000000000 71; bytes 2E00000000 72; bytes 2E000000 STATE");
    }

    private static void typeAddsNoneThen() {
        Script.sentence("2: then none is added.");
        play("bytes 2E2E20 BAD; type 0; load BAD; count 0 0");
        play("type ( 1; bytes 29207D BAD; type 1; type ) 2; load 1");
        play("type (" + ".".repeat(69) + " 70; bytes 292929 STATE; type 70; type .) 72; load 71");
        play("type (" + ".".repeat(70) + " 71; bytes 2929 STATE; bytes 29 72; bytes 29 STATE; load 71");
    }

    private static void typeAnswersTheLength() {
        Script.sentence("2: Answers its length.");
        play("bytes 2E 1; bytes 2E2E 3; bytes 0 3; bytes 2E2E2E2E2E2E2E2E 11; load BAD; bytes 2E 1; load 1; bytes 2E2E 2");
    }

    private static void loadEmptiesTheText() {
        Script.sentence("3: Reads the text, which is empty then in any case, as a program.");
        play("load . 1; type 0; load BAD; count 0 0");
        play("load .. BAD; type 0; load . 1");
        play("load BAD; type 0");
        play("type " + FULL + " 72; load BAD; type " + FULL + " 72; type . STATE");
        play("load (" + ".".repeat(70) + ") 71; type " + FULL + " 72");
        play("load (.) 2; load . 1; load ( BAD; load . 1");
    }

    private static void placeOfACharacter() {
        Script.sentence("3: THE PLACE is where: that of the first character with which, after those before, no program could"
            + " begin");
        Script.refuses(")", 0);
        Script.refuses("~", 0);
        Script.refuses("!", 0);
        Script.refuses("a!", 1);
        Script.refuses("a:1)(((", 3);
        Script.refuses("(a:1,b:2)", 4);
        Script.refuses("(..)~", 4);
        Script.refuses("?1,.;.", 4);
        Script.refuses("(" + ".".repeat(69) + "))", 71);
        Script.refuses("(" + ".".repeat(70) + "]", 71);
        Script.refuses(FULL, 1);
        Script.refuses("(((((((.", 7);
        Script.refuses("((((((^", 6);
        Script.refuses("(((((([(", 7);
        Script.refuses("{....(", 5);
        Script.refuses("a:((((-", 6);
    }

    private static void placeOfTheEnd() {
        Script.sentence("3: or its length, if just the end is wrong");
        Script.refuses("", 0);
        for (String text : new String[] {"(", "a", "a:", "a:-", "a:(1", "A", "A!", "A?", "I", "O", "@", "^", "^1", "^1,", "?1,.",
            "?1,.,", "{", "{....", "[", "[1", "[1&", "[1&A", "[1&A?", "[1&A?a", "[1&.,", "[1&.,.", "[1&.,.1&.,.1&.,.1&.,.",
            "(((((((", "(((((([", "(.a:1"}) {
            Script.refuses(text, text.length());
        }
        Script.refuses("(" + ".".repeat(71), 72);
        Script.refuses("a:1" + "+1".repeat(34) + "-", 72);
    }

    /** These programs begin with each of their beginnings, none of which is a program, and none goes on with ~. */
    private static void placesInPrograms() {
        Script.sentence("3: the first character with which, after those before, no program could begin");
        for (String program : new String[] {"{(a:1A!b)(A?c^1<2,@3)#}", "[1&.,?a,.,.-b&A?a,[]0=1&I?f,(.)(c)&D?d,{}]",
            "(a:----1+((((2))))*-(-(c))/d%999<-e)", "((((((.))))))", "((((((a:1))))))", "((((((A?a))))))", "(((((([]))))))",
            "?1,?2,?3,?4,?5,?6,.,.,.,.,.,.,.", "^1,^2,^3,^4,^5,^6,O!0", "[1&.,[2&.,[3&.,[4&.,[5&.,[6&.,{}]]]]]]",
            "{{....}{()()()()}{@1@2@3@4}{{}{}{}{}}}", "[1&.,.1&.,.1&.,.1&.,.]", "(" + ".".repeat(69) + ")"}) {
            for (int length = 0; length < program.length(); length++) {
                String beginning = program.substring(0, length);
                Script.refuses(beginning, length);
                Script.refuses(beginning + "~", length);
            }
            Script.refuses(program + "~", program.length());
            Script.play("program " + program + "; count 0 -1");
        }
    }

    private static void oldProgramStays() {
        Script.sentence("3: the old program stays.");
        play("load ( BAD; counts 0 0 0 0 0 0 0 0; run 1 STATE");
        play("set 2 9 DONE; load ( BAD; variable 2 9");
        play("load {(@2O!7O!8)(I?a)#} 8; give 5 1; give 6 2; run 5 MORE; counts 2 1 3 5 1 1 1 0; load .. BAD; "
            + "counts 2 1 3 5 1 1 1 0; variables 5 0; run 1 MORE; counts 2 0 2 6 1 2 1 0; load BAD; run 9 STATE; box 7 8");
        play("load {I?aA!1(B?b.)@9} 7; run 5 MORE; load ) BAD; channels 2 1 0 0 1 0; counts 0 0 5 5 0 0 1 1; give 3 0; "
            + "variable 0 3");
        play("load (O!1a:2) 3; run 2 ENDED; load ] BAD; counts 0 0 0 2 0 1 2 0; variable 0 2; run 1 STATE; box 1");
        play("load (a:1#) 3; run 3 STATE; load ] BAD; counts 0 0 0 2 0 0 3 0; variable 0 1; run 1 STATE");
        play("load (a:1b:2) 3; run 1 MORE; load (c:3d:4 BAD; run 1 ENDED; variables 1 2 0 0");
    }

    private static void newProgram() {
        Script.sentence("3: Else it is the program, none of it done; VARIABLES and TIME are 0, gifts and box empty.");
        String clean = "; counts 0 1 1 0 0 0 1 0; variables 0 0 0 0 0 0; channels 0 0 0 0 0 0; box; run 1 ENDED; variable 5 1";
        play("set 0 1 DONE; set 5 2 DONE; load f:f+1 1" + clean);
        play("load {(@2O!7@9O!8)(I?aI?b)(A?c)D!5} 12; set 5 3 DONE; give 5 1; run 8 MORE; counts 2 0 5 8 0 1 1 1; "
            + "channels 1 0 0 2 1 0; load f:f+1 1" + clean);
        play("load {@9@8(I?aI?b)(A?c)} 8; give 5 1; give 6 2; give 7 3; run 5 MORE; load f:f+1 1" + clean);
        play("load (" + EIGHT + "O!9) 6; run 200 HOST; channel 5 2; load f:f+1 1" + clean);
        play("load (@3O!1f:7) 4; give 1 1; run 9 ENDED; load f:f+1 1" + clean);
        play("load (@3O!1f:7#) 5; give 1 1; run 9 STATE; load f:f+1 1" + clean);
        play("load f:f+1 1; run 1 ENDED; load f:f+1 1" + clean);
        play("load a:1/0 1; run 1 ARITHMETIC; load f:f+1 1" + clean);
        play("load [1/0&.,.] 2; run 1 ARITHMETIC; load f:f+1 1" + clean);
        play("load {A!1A!2} 3; run 3 STATE; load f:f+1 1" + clean);
        play("load {##} 3; run 3 MORE; load {.} 2; run 1 MORE; counts 0 1 2 1 0 0 1 0; run 1 ENDED");
        play("load {A?aI?b} 3; run 3 MORE; load {A?aI?b} 3; run 3 MORE; channels 1 0 0 0 1 0");
        play("load (O!1.) 3; run 1 MORE; load () 1; counts 0 0 0 0 0 0 2 0; box");
    }

    private static void processesOfAProgram() {
        Script.sentence("3: Answers how many PROCESSES it has, those of GUARDS too (INPUT and . before the comma aren't ones).");
        for (String text : new String[] {".", "#", "a:1", "A!1", "A?a", "@1", "()", "{}", "[]"}) {
            Script.reads(text, 1);
        }
        Script.reads("[1&.,.]", 2);
        Script.reads("[1&A?a,.]", 2);
        Script.reads("[1&A?a,A?b1&.,#1&I?c,()]", 4);
        Script.reads("^1,.", 2);
        Script.reads("?1,.,.", 3);
        Script.reads("{^1,.?1,.,.[1&.,(.)]}", 9);
        Script.reads("(" + ".".repeat(70) + ")", 71);
        play("load .. BAD; load (.. BAD; load (.) 2");
    }

    private static void runIsBad() {
        Script.sentence("4: A RUN of at most n ACTS (1 .. 200).");
        for (String n : new String[] {"0", "-1", "201", LEAST, GREATEST}) {
            play("load ^1,. 2; run " + n + " BAD; counts 0 1 1 0 0 0 1 0");
        }
        play("load ^1,. 2; run 1 MORE; count 4 1");
        play("load ^1,. 2; run 200 MORE; count 4 200");
        play("load (^a<66,a:a+1b:1) 4; run 133 MORE; run 1 ENDED; count 4 134");
        play("load (^a<99,a:a+1b:1) 4; run 200 ENDED; count 4 200");
        play("load (^a<99,a:a+1b:1.) 5; run 200 MORE; run 200 ENDED; count 4 201");
    }

    private static void runNeedsAProgram() {
        Script.sentence("4: No program, BROKEN or over: IllegalStateException.");
        play("run 1 STATE; run 200 STATE");
        play("load ( BAD; run 1 STATE");
        play("load . 1; run 1 ENDED; run 1 STATE; run 200 STATE; count 4 1");
        play("load () 1; run 1 STATE; run 200 STATE; count 4 0");
        play("load # 1; run 2 STATE; run 1 STATE; count 4 1");
        play("load a:1/0 1; run 2 ARITHMETIC; run 1 STATE; count 4 1");
        play("load {A!1A!2} 3; run 9 STATE; run 1 STATE; count 4 3");
    }

    private static void giftsInOrder() {
        Script.sentence("5: A gift at the end of those on I. Answers how many there are.");
        play("load (I?aI?bI?c) 4; give 5 1; give -6 2; give " + LEAST + " 3; run 3 ENDED; variables 5 -6 " + LEAST);
        play("load (I?aI?b) 3; give 1 1; run 1 MORE; give " + GREATEST + " 1; run 1 ENDED; variables 1 " + GREATEST);
    }

    private static void eightGiftsAtMost() {
        Script.sentence("5: (8 at most)");
        String eight = "give 1 1; give 2 2; give 3 3; give 4 4; give 5 5; give 6 6; give 7 7; give 8 8; ";
        play("load ^1,(I?aO!a) 4; " + eight + "give 9 STATE; count 5 8; run 2 MORE; count 5 7; give 9 8; give 10 STATE; "
            + "run 200 HOST; take 1; run 200 HOST; box 2 3 4 5 6 7 8 9");
        play("load (.I?a) 3; " + eight + "give 9 STATE; run 2 ENDED; variable 0 1; count 5 7; give 9 STATE");
        play("load I?a 1; run 1 MORE; give 0 0; " + eight + "give 9 STATE; count 5 8; variable 0 0");
    }

    private static void giftAtOnce() {
        Script.sentence("5: if a task WAITS for one it gets it at once and is put at the end of THE QUEUE.");
        play("load {(I?aO!a)(.O!5)} 7; run 2 MORE; counts 0 1 3 2 0 0 1 0; give 7 0; variable 0 7; channel 4 0; "
            + "counts 0 2 3 2 0 0 1 0; give 8 1; run 9 ENDED; count 5 1; box 5 7");
        play("load [1&A?a,.1&I?b,O!b] 3; run 9 HOST; give 7 0; variables 0 7; channels 0 0 0 0 0 0; run 9 ENDED; box 7");
        play("load I?f 1; run 1 MORE; give " + LEAST + " 0; variable 5 " + LEAST + "; run 1 ENDED");
    }

    private static void giveNeedsAProgram() {
        Script.sentence("5: No program, or BROKEN or over: IllegalStateException.");
        play("give 1 STATE; count 5 0");
        play("load . 1; give 1 1; run 1 ENDED; give 2 STATE; count 5 1");
        play("load () 1; give 1 STATE; count 5 0");
        play("load # 1; give 1 1; run 2 STATE; give 2 STATE; count 5 1");
        play("load {I?aI?b} 3; run 9 STATE; give 1 STATE; count 5 0; variables 0 0");
        play("load {I?a(@1b:1/0)} 5; run 9 ARITHMETIC; give 1 STATE; variable 0 0");
    }

    private static void takeTheFirst() {
        Script.sentence("6: Takes the first value out of the box");
        play("load (O!3O!0-4O!5) 4; run 2 MORE; take 3; count 6 1; run 1 ENDED; take -4; take 5; take ELEMENT");
        play("load O!a 1; set 0 " + LEAST + " DONE; run 1 ENDED; take " + LEAST + "; count 6 0");
    }

    private static void takeLetsATaskGoOn() {
        Script.sentence("6: if a task of a program to be run WAITS at O its value goes in then, and it's put at the end of THE"
            + " QUEUE.");
        play("load (" + EIGHT + "O!9O!10) 7; run 200 HOST; take 1; count 6 8; channel 5 0; counts 0 1 1 26 0 8 1 0; take 2; "
            + "count 6 7; run 9 ENDED; box 3 4 5 6 7 8 9 10");
        play("load {(" + EIGHT + "O!9b:c)^1,c:c+1} 10; run 43 MORE; channel 5 2; count 2 1; take 1; count 2 2; run 2 MORE; "
            + "variables 8 0 9; run 1 MORE; variables 8 9 9");
        play("load {(" + EIGHT + "O!9)(a:8.b:1/0)} 11; run 200 ARITHMETIC; count 6 1; box 1");
        play("load {(" + EIGHT + "O!9)(@1b:1/0)} 10; run 200 ARITHMETIC; count 6 8; take 1; count 6 7; "
            + "box 2 3 4 5 6 7 8");
    }

    private static void takeWithoutAProgramToBeRun() {
        Script.sentence("6: Takes the first value out of the box; (of a program that is over or BROKEN, too)");
        play("load (O!1O!2) 3; run 9 ENDED; take 1; take 2; take ELEMENT");
        play("load (O!1O!2#) 4; run 9 STATE; take 1; take 2; take ELEMENT");
        play("load (O!1a:1/0) 3; run 9 ARITHMETIC; take 1; take ELEMENT");
    }

    private static void boxIsEmpty() {
        Script.sentence("6: The box is empty: NoSuchElementException.");
        play("take ELEMENT; take ELEMENT");
        play("load O!1 1; take ELEMENT; run 1 ENDED; take 1; take ELEMENT; count 6 0");
        play("load # 1; run 2 STATE; take ELEMENT");
    }

    private static void variables() {
        Script.sentence("7: The VARIABLE (0 a .. 5 f).");
        for (String v : new String[] {"-1", "6", LEAST, GREATEST}) {
            play("variable " + v + " BAD; load . 1; variable " + v + " BAD");
        }
        play("load (a:10b:11c:12d:13e:14f:15) 7; run 9 ENDED; variable 0 10; variable 1 11; variable 2 12; variable 3 13; "
            + "variable 4 14; variable 5 15");
    }

    private static void set() {
        Script.sentence("8: It becomes the value.");
        for (String v : new String[] {"-1", "6", LEAST, GREATEST}) {
            play("set " + v + " 7 BAD; variables 0 0 0 0 0 0; load . 1; set " + v + " 7 BAD; variables 0 0 0 0 0 0");
        }
        play("set 0 1 DONE; set 5 " + LEAST + " DONE; variables 1 0 0 0 0 " + LEAST);
        play("set 3 " + GREATEST + " DONE; variables 0 0 0 " + GREATEST + " 0 0; set 3 0 DONE; variable 3 0");
        play("load (a:b#) 3; set 1 4 DONE; run 1 MORE; variables 4 4; run 2 STATE; set 0 8 DONE; variables 8 4; count 7 3");
        play("load . 1; run 1 ENDED; set 2 5 DONE; variable 2 5; count 7 2");
    }

    private static void channels() {
        Script.sentence("9: Of channel c (0 A .. 3 D, 4 I, 5 O): 1 if a task WAITS for INPUT there, 2 with OUTPUT, else 0.");
        for (String c : new String[] {"-1", "6", LEAST, GREATEST}) {
            play("channel " + c + " BAD; load . 1; channel " + c + " BAD");
        }
        play("channels 0 0 0 0 0 0; load {A?aB?bC?cD?d} 5; channels 0 0 0 0 0 0; run 2 MORE; channels 1 0 0 0 0 0; run 3 MORE; "
            + "channels 1 1 1 1 0 0; run 1 STATE; channels 0 0 0 0 0 0");
        play("load {A!1B!2C!3D!4} 5; run 5 MORE; channels 2 2 2 2 0 0; run 1 STATE; channels 0 0 0 0 0 0");
        play("load {I?b(" + EIGHT + "O!9)} 8; run 200 HOST; channels 0 0 0 0 1 2; take 1; channels 0 0 0 0 1 0; give 1 0; "
            + "channels 0 0 0 0 0 0");
        play("load {A?a(A!1.)} 5; run 2 MORE; channel 0 1; run 1 MORE; channel 0 0");
        play("load {A!1(A?a.)} 5; run 2 MORE; channel 0 2; run 1 MORE; channel 0 0");
    }

    private static void countThePlace() {
        Script.sentence("10: THE PLACE of the latest text that couldn't be read, -1 if there was none (0)");
        play("count 0 -1; load . 1; count 0 -1; load (. BAD; count 0 2; load . 1; count 0 2; load BAD; count 0 0; run 1 ENDED; "
            + "load (...) 4; count 0 0; load (..! BAD; count 0 3; type . 1; count 0 3");
    }

    private static void countTime() {
        Script.sentence("10: TIME (1)");
        play("count 1 0; load (@3.@4) 4; count 1 0; run 1 MORE; count 1 0; run 1 MORE; count 1 3; run 9 ENDED; count 1 7; "
            + "load ( BAD; count 1 7; load . 1; count 1 0");
        play("load @a 1; set 0 " + GREATEST + " DONE; run 9 ENDED; count 1 " + GREATEST);
    }

    private static void countTheQueue() {
        Script.sentence("10: TASKS in THE QUEUE, the CURRENT one included (2)");
        play("count 2 0; load {(..)..#} 7; count 2 1; run 1 MORE; count 2 4; run 1 MORE; count 2 4; run 1 MORE; count 2 3; "
            + "run 2 MORE; count 2 1; run 1 MORE; count 2 0; run 1 STATE; count 2 0");
    }

    private static void countTasks() {
        Script.sentence("10: TASKS there are (3)");
        play("count 3 0; load {(..)..#} 7; count 3 1; run 1 MORE; count 3 5; run 2 MORE; count 3 4; run 2 MORE; count 3 2; "
            + "run 1 MORE; count 3 2; run 1 STATE; count 3 0");
        play("load {" + "{{####}{####}{#}}".repeat(4) + "} 53; run 17 MORE; counts 0 36 53 17 0 0 1 0; run 36 MORE; "
            + "counts 0 0 53 53 0 0 1 0; run 1 STATE; counts 0 0 0 53 0 0 3 0");
    }

    private static void countActs() {
        Script.sentence("10: ACTS done by this program, one that broke it too (4)");
        play("count 4 0; load (..) 3; count 4 0; run 1 MORE; count 4 1; run 9 ENDED; count 4 2; load . 1; count 4 0");
        play("load (.a:1/0) 3; run 9 ARITHMETIC; count 4 2; load ( BAD; count 4 2");
        play("load {A!1A!2} 3; run 9 STATE; count 4 3");
        play("load {A?aA?a} 3; run 9 STATE; count 4 3");
        play("load (.#) 3; run 9 STATE; count 4 2");
    }

    private static void countGiftsAndValues() {
        Script.sentence("10: gifts (5); values in the box (6)");
        play("count 5 0; count 6 0; load (I?aO!aI?aO!a) 5; give 1 1; give 2 2; count 5 2; run 1 MORE; count 5 1; count 6 0; "
            + "run 1 MORE; count 6 1; run 2 ENDED; count 5 0; count 6 2; take 1; count 6 1; load . 1; count 6 0");
        play("load (" + EIGHT + "O!9) 6; run 200 HOST; count 6 8");
    }

    private static void countTheState() {
        Script.sentence("10: 0 no program, 1 one to be run, 2 over, 3 BROKEN (7)");
        play("count 7 0; load ( BAD; count 7 0; load . 1; count 7 1; run 1 ENDED; count 7 2; load # 1; count 7 1; run 1 MORE; "
            + "count 7 1; run 1 STATE; count 7 3; load ( BAD; count 7 3; load () 1; count 7 2; load I?a 1; run 9 HOST; "
            + "count 7 1");
        play("load a:1/0 1; run 1 ARITHMETIC; count 7 3");
        play("load {A!1A!2} 3; run 3 STATE; count 7 3");
    }

    private static void countSleepers() {
        Script.sentence("10: TASKS WAITING for TIME (8)");
        play("count 8 0; load {@1@2@2@3} 5; count 8 0; run 1 MORE; count 8 0; run 1 MORE; count 8 1; run 3 MORE; count 8 4");
        play("load {(@1.)(@2.)(@2.)(@3.)} 13; run 5 MORE; count 8 4; run 1 MORE; count 8 3; run 1 MORE; count 8 1; "
            + "run 9 ENDED; count 8 0");
        play("load @0 1; run 1 ENDED; count 8 0");
    }

    private static void countElse() {
        Script.sentence("10: else -1.");
        for (String what : new String[] {"-1", "9", "10", LEAST, GREATEST}) {
            play("count " + what + " -1; load {.#} 3; run 2 MORE; count " + what + " -1");
        }
    }

    private static void countWithoutAProgramToBeRun() {
        Script.sentence("10: (2), (3) and (8) are 0 without a program to be run.");
        play("count 2 0; count 3 0; count 8 0");
        play("load {.@2} 3; run 9 ENDED; count 2 0; count 3 0; count 8 0");
        play("load {@2(a:1/0).#} 6; run 2 MORE; count 2 3; count 3 5; count 8 1; run 1 ARITHMETIC; count 2 0; count 3 0; count 8 0");
        play("load {@2A!1A!2.} 5; run 3 MORE; count 2 2; count 3 5; count 8 1; run 1 STATE; count 2 0; count 3 0; count 8 0");
        play("load {##} 3; run 3 MORE; count 3 3; run 1 STATE; count 2 0; count 3 0; count 8 0");
    }
}
