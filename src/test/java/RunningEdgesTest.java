/** The boundary cases that "Terms" names of running: a method for each sentence. */
final class RunningEdgesTest {
    private static final String LEAST = "-2147483648";
    private static final String GREATEST = "2147483647";
    private static final String EIGHT = "^a<8,(a:a+1O!a)";

    public static void main(String[] args) {
        firstTask();
        currentTask();
        plainActs();
        conditions();
        loopsThatAreOver();
        loopsYield();
        stop();
        parallels();
        parallelsWithoutAny();
        endsAreNoActs();
        tasksWithoutAct();
        endsAtOnce();
        yieldsAtOnce();
        outputsMeet();
        outputsToTheHost();
        inputsMeet();
        inputsFromTheHost();
        guardsAreLookedAt();
        firstReadyGuard();
        waitingAtGuards();
        noOpenGuard();
        delays();
        timeGrows();
        sleepersWake();
        clashesOfInputs();
        clashesOfOutputs();
        noClash();
        runsToTheEnd();
        runsAsManyActs();
        hostsTurn();
        deadlocks();
        breaks();
        Check.finish();
    }

    private static void play(String calls) {
        Script.play(calls);
    }

    private static void firstTask() {
        Script.sentence("There is a QUEUE of TASKS that are ready; at first the one that runs the program.");
        play("program .; counts 0 1 1 0 0 0 1 0; channels 0 0 0 0 0 0");
        play("program {..}; counts 0 1 1 0 0 0 1 0; run 1 MORE; counts 0 2 3 1 0 0 1 0");
        play("program I?a; counts 0 1 1 0 0 0 1 0; run 1 MORE; counts 0 0 1 1 0 0 1 0");
    }

    private static void currentTask() {
        Script.sentence("The first one of THE QUEUE is taken and is the CURRENT one until it WAITS, ENDS, or YIELDS"
            + " (goes to the end of THE QUEUE); then the next is taken.");
        play("program {(O!1?1,O!2,.O!3)(O!4)}; run 50 ENDED; box 1 2 3 4");
        play("program {(O!1A!0O!2)(O!3A?bO!4)}; run 50 ENDED; box 1 3 4 2");
        play("program {^a<2,(a:a+1O!a)(O!7O!8)O!9}; run 50 ENDED; box 1 7 8 9 2");
        play("program ^a<2,(a:a+1O!a); run 50 ENDED; box 1 2");
    }

    private static void plainActs() {
        Script.sentence("ASSIGNMENT, nothing: an ACT. SEQUENCE: no ACT of its own, its PROCESSES in order.");
        play("program .; run 1 ENDED; count 4 1");
        play("program a:1; run 1 ENDED; count 4 1");
        play("program (a:1b:a+1); run 1 MORE; counts 0 1 1 1 0 0 1 0; variables 1 0; run 1 ENDED; count 4 2; variables 1 2");
        play("program ((((((.)))))); run 1 ENDED; count 4 1");
        play("program (()(())(.)()); run 1 ENDED; count 4 1");
        play("program (()a:1(()b:2())()); run 1 MORE; variables 1 0; run 1 ENDED; variables 1 2");
    }

    private static void conditions() {
        Script.sentence("CONDITION: an ACT (the EXPRESSION), then the first PROCESS if it isn't 0, else the second.");
        for (String a : new String[] {"1", "-1", "2", LEAST, GREATEST}) {
            play("program ?a,O!1,O!2; set 0 " + a + " DONE; run 1 MORE; count 6 0; run 1 ENDED; count 4 2; box 1");
        }
        play("program ?a,O!1,O!2; run 1 MORE; count 6 0; run 1 ENDED; count 4 2; box 2");
        play("program ?1,(),#; run 1 ENDED; count 4 1");
        play("program ?0,#,(); run 1 ENDED; count 4 1");
        play("program (?1,.,O!2O!3); run 9 ENDED; count 4 3; box 3");
    }

    private static void loopsThatAreOver() {
        Script.sentence("LOOP: an ACT (the EXPRESSION): 0: it's over; else the PROCESS, then the LOOP again");
        play("program ^0,#; run 1 ENDED; count 4 1");
        play("program ^a,a:a+1; set 0 -2 DONE; run 9 ENDED; count 4 5; variable 0 0");
        play("program ^a,a:a-a; set 0 " + LEAST + " DONE; run 9 ENDED; count 4 3");
        play("program (^a<3,a:a+1O!a); run 7 MORE; count 6 0; run 1 ENDED; count 4 8; box 3");
        play("program ^1,(); run 200 MORE; count 4 200; run 200 MORE; count 4 400");
        play("program {(^0,.O!1)O!2}; run 9 ENDED; box 1 2");
    }

    private static void loopsYield() {
        Script.sentence("and after the PROCESS, before that, the task YIELDS.");
        play("program {^a<1,(a:1O!1)O!2}; run 4 MORE; box 1; run 1 MORE; box 2; run 1 ENDED; count 4 6");
        play("program {^a<1,()(a:1O!1)}; run 2 MORE; counts 0 2 3 2 0 0 1 0; run 9 ENDED; count 4 5; box 1");
        play("program {^a<2,(a:a+1O!a)^b<2,(b:b+1O!10+b)}; run 50 ENDED; box 1 11 2 12");
        play("program {^a<1,(^b<1,(b:1O!1)a:1O!2)O!3O!4}; run 50 ENDED; box 1 3 4 2");
    }

    private static void stop() {
        Script.sentence("STOP: an ACT, the task WAITS for ever.");
        play("program #; run 1 MORE; counts 0 0 1 1 0 0 1 0; channels 0 0 0 0 0 0; run 1 STATE; counts 0 0 0 1 0 0 3 0");
        play("program {#O!1}; run 3 MORE; counts 0 0 2 3 0 1 1 0; run 1 STATE; count 4 3");
        play("program (#O!1); run 1 MORE; give 1 1; count 2 0; run 9 STATE; count 6 0");
    }

    private static void parallels() {
        Script.sentence("PARALLEL: an ACT: for each PROCESS in order a new TASK is put at the end of THE QUEUE, and the task"
            + " WAITS until all of these have ENDED; then it's put at the end of THE QUEUE.");
        play("program {....}; run 1 MORE; counts 0 4 5 1 0 0 1 0; run 3 MORE; counts 0 1 2 4 0 0 1 0; run 1 ENDED; count 4 5");
        play("program {.}; run 1 MORE; counts 0 1 2 1 0 0 1 0; run 1 ENDED; count 4 2");
        play("program {O!1O!2O!3O!4}; run 9 ENDED; box 1 2 3 4");
        play("program {{O!1O!2}O!3}; run 9 ENDED; box 3 1 2");
        play("program ({.@3}O!1); run 3 MORE; counts 0 0 2 3 0 0 1 1; run 9 ENDED; count 1 3; box 1");
        play("program {({O!1O!2}O!5)(O!3^a<1,a:1O!4)}; run 50 ENDED; count 4 10; box 3 1 2 4 5");
        play("program {{....}{....}{....}{....}}; run 5 MORE; counts 0 16 21 5 0 0 1 0; run 16 ENDED; count 4 21");
        play("program (^a<99,{a:a+1}O!a); run 200 MORE; run 99 ENDED; count 4 299; box 99");
    }

    private static void parallelsWithoutAny() {
        Script.sentence("(Without any it goes on.)");
        play("program {}; run 1 ENDED; count 4 1");
        play("program ({}.); run 1 MORE; counts 0 1 1 1 0 0 1 0; run 1 ENDED; count 4 2");
        play("program {({}O!1)O!2}; run 9 ENDED; count 4 4; box 1 2");
    }

    private static void endsAreNoActs() {
        Script.sentence("A task ENDS behind its last ACT; that is no ACT.");
        play("program {..}; run 2 MORE; counts 0 1 2 2 0 0 1 0; run 1 ENDED; counts 0 0 0 3 0 0 2 0");
        play("program {{{.}}}; run 4 ENDED; counts 0 0 0 4 0 0 2 0");
        play("program {(.())(.(()))}; run 2 MORE; count 3 2; run 1 ENDED; count 4 3");
    }

    private static void tasksWithoutAct() {
        Script.sentence("(A task without any ACT ENDS when it's made, and is put nowhere; if all of a PARALLEL are so, that"
            + " goes on.)");
        play("program {()(.)(())}; run 1 MORE; counts 0 1 2 1 0 0 1 0; run 1 ENDED; count 4 2");
        play("program {()}; run 1 ENDED; count 4 1");
        play("program {()()()()}; run 1 ENDED; count 4 1");
        play("program {({()(()())}O!1)O!2}; run 9 ENDED; count 4 4; box 1 2");
        play("program (); counts 0 0 0 0 0 0 2 0; run 1 STATE; give 1 STATE");
        play("program (()(())); counts 0 0 0 0 0 0 2 0; run 1 STATE; give 1 STATE");
        play("program {{}}; run 1 MORE; counts 0 1 2 1 0 0 1 0; run 1 ENDED; count 4 2");
    }

    private static void endsAtOnce() {
        Script.sentence("What ENDS without another ACT does so as soon as it's CURRENT: before an ACT of a RUN, and after its"
            + " last one, too.");
        play("program I?a; run 1 MORE; give 4 0; counts 0 1 1 1 0 0 1 0; run 1 ENDED; counts 0 0 0 1 0 0 2 0");
        play("program {I?a(.#)}; run 2 MORE; give 4 0; counts 0 2 3 2 0 0 1 0; run 1 MORE; counts 0 2 3 3 0 0 1 0; "
            + "run 1 MORE; counts 0 0 2 4 0 0 1 0");
        play("program {A!1A?b}; run 2 MORE; count 3 3; run 1 ENDED; count 4 3");
        play("program {({.}O!1)(I?aO!2)}; run 4 MORE; counts 0 1 3 4 0 0 1 0; give 5 0; run 9 ENDED; box 1 2");
        play("program @5; run 1 MORE; counts 0 0 1 1 0 0 1 1; run 1 ENDED; counts 5 0 0 1 0 0 2 0");
        play("program {@5(@5.)}; run 3 MORE; run 1 ENDED; counts 5 0 0 4 0 0 2 0");
        play("program (" + EIGHT + "O!9); run 200 HOST; take 1; counts 0 1 1 26 0 8 1 0; run 1 ENDED; count 4 26");
    }

    private static void yieldsAtOnce() {
        Script.sentence("What YIELDS without another ACT does so as soon as it's CURRENT: before an ACT of a RUN, and after its"
            + " last one, too.");
        play("program {^1,I?b(" + EIGHT + "O!9c:7)}; run 200 HOST; give 5 0; take 1; count 2 2; run 1 MORE; "
            + "variables 8 5 7; counts 0 1 2 30 0 8 1 0");
        play("program {(I?aO!a)^1,O!1}; run 4 MORE; count 2 1; give 7 0; count 2 2; run 3 MORE; box 1 1 7");
        play("program {^1,()(O!1#)}; run 3 MORE; counts 0 2 3 3 0 1 1 0");
    }

    private static void outputsMeet() {
        Script.sentence("OUTPUT: on A .. D: if a task WAITS for INPUT there, that one's VARIABLE gets the value and it's put at"
            + " the end of THE QUEUE, and this task goes on; else it WAITS with the value.");
        for (String name : new String[] {"A", "B", "C", "D"}) {
            String input = name + "?a";
            String output = name + "!7";
            play("program {(" + input + "O!a)(" + output + "O!1)}; run 3 MORE; variable 0 7; counts 0 2 3 3 0 0 1 0; "
                + "channels 0 0 0 0 0 0; run 9 ENDED; count 4 5; box 1 7");
            play("program {(" + output + "O!1).}; run 3 MORE; counts 0 0 2 3 0 0 1 0; run 1 STATE; count 6 0");
        }
        play("program {(A!aO!1)(a:5A?bO!b)}; run 9 ENDED; box 0 1");
        play("program {(A?bO!b)(A!a)}; set 0 " + LEAST + " DONE; run 9 ENDED; box " + LEAST);
        play("program {(A?aO!5)(.A!1O!6)(O!7)}; run 9 ENDED; box 6 7 5");
    }

    private static void outputsToTheHost() {
        Script.sentence("On O: if the host's box has fewer than 8, it goes in behind and the task goes on, else the task"
            + " WAITS.");
        play("program O!5; run 1 ENDED; box 5");
        play("program (^a<7,(a:a+1O!a)O!a+1); run 200 ENDED; box 1 2 3 4 5 6 7 8");
        play("program (" + EIGHT + ".); run 200 ENDED; box 1 2 3 4 5 6 7 8");
        play("program (" + EIGHT + "O!9.); run 200 HOST; channel 5 2; counts 0 0 1 26 0 8 1 0; take 1; run 200 ENDED; "
            + "count 4 27; box 2 3 4 5 6 7 8 9");
        play("program (" + EIGHT + "O!9.); run 25 MORE; take 1; run 200 ENDED; box 2 3 4 5 6 7 8 9");
    }

    private static void inputsMeet() {
        Script.sentence("INPUT: on A .. D: if a task WAITS with OUTPUT there, the VARIABLE gets its value, that one is put at"
            + " the end of THE QUEUE, and this one goes on; else it WAITS.");
        for (String name : new String[] {"A", "B", "C", "D"}) {
            String input = name + "?a";
            String output = name + "!7";
            play("program {(" + output + "O!1)(" + input + "O!a)}; run 3 MORE; variable 0 7; counts 0 2 3 3 0 0 1 0; "
                + "channels 0 0 0 0 0 0; run 9 ENDED; count 4 5; box 7 1");
            play("program {(" + input + "O!1).}; run 3 MORE; counts 0 0 2 3 0 0 1 0; run 1 STATE; count 6 0");
        }
        play("program {(A!1O!5)(.A?aO!6)(O!7)}; run 9 ENDED; box 6 7 5");
        play("program {A!1B?a}; run 3 MORE; channels 2 1 0 0 0 0; run 1 STATE");
    }

    private static void inputsFromTheHost() {
        Script.sentence("On I: the first of the host's gifts, if there is one, else it WAITS.");
        play("program (I?aI?b); give 5 1; give 6 2; run 1 MORE; variables 5 0; count 5 1; run 1 ENDED; variables 5 6; count 5 0");
        play("program (I?aI?b); give 5 1; run 2 MORE; variables 5 0; channel 4 1; counts 0 0 1 2 0 0 1 0; run 1 HOST; "
            + "give 6 0; variables 5 6; run 1 ENDED; count 4 2");
    }

    private static void guardsAreLookedAt() {
        Script.sentence("ALTERNATIVE: an ACT: all EXPRESSIONS of the GUARDS in order; those that aren't 0 are OPEN.");
        for (String a : new String[] {"1", "-1", LEAST, GREATEST}) {
            play("program [a&.,O!1]; set 0 " + a + " DONE; run 1 MORE; count 4 1; run 1 ENDED; count 4 2; box 1");
        }
        play("program [a&.,(O!1)1&.,O!2]; run 2 ENDED; box 2");
        play("program [1&.,.1/0&.,.]; run 9 ARITHMETIC; count 4 1");
        play("program [0&.,.0&.,.0&.,.1%0&.,.]; run 9 ARITHMETIC; count 4 1");
        play("program [1&I?a,.1/a&.,.]; give 1 1; run 9 ARITHMETIC; count 4 1; count 5 1; variable 0 0");
        play("program {[a&A?b,.1&B?c,.](a:1A!5)}; run 4 MORE; channels 2 1 0 0 0 0; run 1 STATE");
        play("program {[a&A?b,O!b](a:0A!5)}; set 0 1 DONE; run 9 ENDED; box 5");
        play("program [1&.,()]; run 1 ENDED; count 4 1");
    }

    private static void firstReadyGuard() {
        Script.sentence("The first OPEN one that is ready (the . always; an INPUT if it wouldn't WAIT) is done, and its PROCESS"
            + " follows.");
        play("program [1&.,(O!1)1&.,O!2]; run 9 ENDED; box 1");
        play("program [0&.,(O!1)1&.,O!2]; run 9 ENDED; box 2");
        play("program [0&.,#0&.,#0&.,#1&.,O!4]; run 9 ENDED; box 4");
        play("program [1&I?a,(O!a)1&.,O!2]; run 9 ENDED; box 2");
        play("program [1&I?a,(O!a)1&.,O!2]; give 7 1; run 9 ENDED; count 5 0; box 7");
        play("program [0&I?a,(O!a)1&.,O!2]; give 7 1; run 9 ENDED; count 5 1; box 2");
        play("program {A!7[1&B?b,#1&A?a,O!a]}; run 9 ENDED; count 4 4; box 7");
        play("program {A!7[1&.,(O!2A?a)1&A?a,#]}; run 9 ENDED; box 2");
        play("program {(A!7O!1)[1&A?a,O!a]}; run 3 MORE; variable 0 7; counts 0 2 3 3 0 0 1 0; run 9 ENDED; box 7 1");
        play("program {A!1B!2[1&B?a,(O!aA?b)1&A?b,#]}; run 9 ENDED; box 2");
        play("program ([1&.,O!a0&.,.0&.,.0&.,.]O!1); run 9 ENDED; count 4 3; box 0 1");
    }

    private static void waitingAtGuards() {
        Script.sentence("None is ready: with OPEN ones the task WAITS for INPUT on all their channels (the first OPEN one of a"
            + " channel stands for it), with the PROCESS to follow");
        play("program [1&A?a,.1&D?b,.0&B?c,.1&I?d,.]; run 1 MORE; counts 0 0 1 1 0 0 1 0; channels 1 0 0 1 1 0");
        play("program [1&A?a,.1&B?b,.1&C?c,.1&D?d,.]; run 1 MORE; channels 1 1 1 1 0 0");
        play("program {[1&A?a,.1&B?b,O!b](B!7A!8)}; run 3 MORE; variables 0 7; channels 0 0 0 0 0 0; run 2 MORE; "
            + "channels 2 0 0 0 0 0; run 1 STATE; box 7");
        play("program {[0&A?a,#1&A?b,(O!1)1&A?c,#](A!5)}; run 9 ENDED; variables 0 5 0; box 1");
        play("program [1&I?a,(O!1)1&I?b,O!2]; run 1 MORE; channel 4 1; give 5 0; channel 4 0; variables 5 0; run 9 ENDED; box 1");
        play("program [1&A?a,(O!1)1&I?b,O!2]; run 9 HOST; channels 1 0 0 0 1 0; give 5 0; channels 0 0 0 0 0 0; run 1 ENDED; "
            + "box 2");
        play("program ([1&A?a,.1&I?b,()][1&B?c,.]); run 1 MORE; give 5 0; run 1 MORE; channels 0 1 0 0 0 0; give 1 1");
    }

    private static void noOpenGuard() {
        Script.sentence("without, for ever.");
        for (String text : new String[] {"[]", "[0&.,.]", "[0&I?a,.]", "[0&A?a,.0&.,.a&I?b,.b&D?c,.]"}) {
            play("program " + text + "; run 1 MORE; counts 0 0 1 1 0 0 1 0; channels 0 0 0 0 0 0; give 1 1; run 1 STATE; "
                + "counts 0 0 0 1 1 0 3 0");
        }
        for (String text : new String[] {"([]O!1+2O!3)", "([0&.,.]O!1+2O!3)", "([]I?aO!3)", "([0&I?a,.][1&.,O!3])"}) {
            play("program " + text + "; give 1 1; run 9 STATE; counts 0 0 0 1 1 0 3 0");
        }
    }

    private static void delays() {
        Script.sentence("DELAY: an ACT: the EXPRESSION's value d above 0: the task WAITS until TIME has grown by d; else it goes"
            + " on.");
        for (String a : new String[] {"0", "-1", LEAST}) {
            play("program {(@aO!1)O!2}; set 0 " + a + " DONE; run 2 MORE; counts 0 2 3 2 0 0 1 0; run 9 ENDED; count 1 0; "
                + "count 4 4; box 1 2");
        }
        for (String a : new String[] {"1", "2", GREATEST}) {
            play("program {(@aO!1)O!2}; set 0 " + a + " DONE; run 2 MORE; counts 0 1 3 2 0 0 1 1; run 9 ENDED; count 1 " + a
                + "; count 4 4; box 2 1");
        }
        play("program (@3@4O!1); run 3 ENDED; count 1 7; count 4 3");
    }

    private static void timeGrows() {
        Script.sentence("TIME is 0 at first. It only grows when THE QUEUE is empty and there are TASKS WAITING for TIME: to the"
            + " least one they wait for");
        play("count 1 0; program .; count 1 0; run 9 ENDED; count 1 0");
        play("program {(@1O!1)^a<3,a:a+1}; run 9 MORE; counts 0 0 2 9 0 0 1 1; run 1 ENDED; counts 1 0 0 10 0 1 2 0");
        play("program {(@5O!5)(@3O!3)(@9O!9)(@4O!4)}; run 5 MORE; counts 0 0 5 5 0 0 1 4; run 1 MORE; "
            + "counts 3 0 4 6 0 1 1 3; run 1 MORE; counts 4 0 3 7 0 2 1 2; run 9 ENDED; count 1 9; box 3 4 5 9");
        play("program {I?a#}; run 9 HOST; count 1 0; run 9 HOST; count 1 0");
        play("program {@7I?a}; run 9 HOST; count 1 7; run 9 HOST; count 1 7; give 1 0; run 9 ENDED; count 1 7");
        play("program {(@aO!1@aO!2)(@a@1O!3)}; set 0 " + GREATEST + " DONE; run 99 ENDED; box 1 3 2");
        play("program {(@5@aO!1)(@5@1O!2)}; set 0 " + GREATEST + " DONE; run 99 ENDED; box 2 1");
    }

    private static void sleepersWake() {
        Script.sentence("all with this are put at the end of THE QUEUE, in the order in which they began to wait.");
        play("program {(@3O!1)(@3O!2)(@3O!3)(@4O!4)}; run 6 MORE; counts 3 2 4 6 0 1 1 1; run 9 ENDED; box 1 2 3 4");
        play("program {(@2@1O!1)(@3O!2)}; run 9 ENDED; count 1 3; box 2 1");
        play("program {(@2O!1)(@1O!9@1O!2)(@2O!3)}; run 20 ENDED; count 1 2; box 9 1 3 2");
    }

    private static void breaksAtOnce(String text, int acts) {
        play("program " + text + "; run " + acts + " STATE; counts 0 0 0 " + acts + " 0 0 3 0; channels 0 0 0 0 0 0");
    }

    private static void clashesOfInputs() {
        Script.sentence("A second task to WAIT for INPUT at one of A .. D or I, while another does: CLASH.");
        for (String name : new String[] {"A", "B", "C", "D", "I"}) {
            breaksAtOnce("{" + name + "?a" + name + "?b.}", 3);
            breaksAtOnce("{" + name + "?a[1&" + name + "?b,.].}", 3);
            breaksAtOnce("{[1&" + name + "?b,.]" + name + "?a.}", 3);
            breaksAtOnce("{[1&" + name + "?b,.][1&" + name + "?b,.].}", 3);
        }
        breaksAtOnce("{A?a[1&B?b,.0&.,.1&C?b,.1&A?b,.].}", 3);
        breaksAtOnce("{[1&B?b,.1&C?b,.1&I?b,.](.I?a).}", 4);
    }

    private static void clashesOfOutputs() {
        Script.sentence("or with OUTPUT at one of A .. D or O, while another does: CLASH.");
        for (String name : new String[] {"A", "B", "C", "D"}) {
            breaksAtOnce("{" + name + "!1" + name + "!1.}", 3);
        }
        play("program {(" + EIGHT + "O!9)(@1O!10)}; run 28 MORE; channel 5 2; count 1 0; run 1 STATE; counts 1 0 0 29 0 8 3 0; "
            + "box 1 2 3 4 5 6 7 8");
    }

    private static void noClash() {
        Script.sentence("A second task to WAIT, while another does: CLASH. (Not one that goes on, nor the same task.)");
        play("program [1&A?a,.1&A?b,.1&I?c,.1&I?d,.]; run 1 MORE; channels 1 0 0 0 1 0");
        play("program {A?a[1&A?b,.1&.,A!1]}; run 9 ENDED; count 4 4; variable 0 1");
        play("program {A?a[0&A?b,.1&B?b,.](A!1B!2)}; run 9 ENDED; variables 1 2");
        play("program {(A!1A!2)(A?aA?b)}; run 9 ENDED; variables 1 2");
        play("program {(A?aA?b)(A!1A!2)}; run 9 ENDED; variables 1 2");
        play("program {(" + EIGHT + "O!9).}; run 200 HOST; take 1; run 9 ENDED");
        play("program {A?aB?bC!1D!2}; run 5 MORE; channels 1 1 2 2 0 0");
    }

    private static void runsToTheEnd() {
        Script.sentence("A RUN does ACTS until: the program has ENDED (all is over then)");
        play("program (..); run 2 ENDED; counts 0 0 0 2 0 0 2 0; channels 0 0 0 0 0 0; run 1 STATE");
        play("program (..); run 200 ENDED; counts 0 0 0 2 0 0 2 0");
        play("program (O!1@2); give 5 1; run 200 ENDED; counts 2 0 0 2 1 1 2 0; box 1");
    }

    private static void runsAsManyActs() {
        Script.sentence("as many ACTS as it may were done");
        play("program (....); run 1 MORE; count 4 1; run 2 MORE; count 4 3; run 1 ENDED; count 4 4");
        play("program #; run 1 MORE; count 7 1");
        play("program I?a; run 1 MORE; run 1 HOST");
        play("program A?a; run 1 MORE; count 7 1; run 1 STATE; count 7 3");
        play("program (@1.); run 1 MORE; count 1 0; run 1 ENDED; count 1 1");
        play("program ^1,.; run 199 MORE; count 4 199; run 200 MORE; count 4 399");
    }

    private static void hostsTurn() {
        Script.sentence("THE QUEUE is empty and no task WAITS for TIME: if one WAITS at I or O it's the HOST's turn");
        play("program I?a; run 2 HOST; count 4 1; count 7 1; run 200 HOST; count 4 1");
        play("program {I?a#A!1B?b}; run 200 HOST; counts 0 0 5 5 0 0 1 0; channels 2 1 0 0 1 0");
        play("program {(" + EIGHT + "O!9)#}; run 200 HOST; channels 0 0 0 0 0 2; take 1; run 200 STATE");
        play("program {[1&A?a,.1&I?b,.]#}; run 200 HOST; channels 1 0 0 0 1 0; give 1 0; run 200 STATE");
        play("program {I?a(@2O!1)}; run 3 MORE; count 1 0; run 200 HOST; count 1 2; box 1");
        play("program {I?a.}; run 2 MORE; run 1 MORE; run 1 HOST");
    }

    private static void deadlocks() {
        Script.sentence("else a DEADLOCK.");
        for (String text : new String[] {"#", "A?a", "D!1", "[]"}) {
            play("program " + text + "; run 2 STATE; counts 0 0 0 1 0 0 3 0; channels 0 0 0 0 0 0");
        }
        play("program {A!1B?bC!2#}; give 1 1; run 200 STATE; counts 0 0 0 5 1 0 3 0");
        play("program {(@4A!1)#}; run 200 STATE; counts 4 0 0 4 0 0 3 0");
    }

    private static void breaks() {
        Script.sentence("ArithmeticException, CLASH and DEADLOCK end the program: it's BROKEN.");
        for (String text : new String[] {"{(O!1@1a:1/0)A?a#I?b}", "{(O!1@1A?a)A?a#I?b}"}) {
            play("program " + text + "; run 6 MORE; channels 1 0 0 0 1 0; counts 0 0 5 6 0 1 1 1; give 1 0; give 2 1");
        }
        play("program {(O!1@1a:1/0)A?a#I?b}; run 6 MORE; run 9 ARITHMETIC; counts 1 0 0 7 0 1 3 0; channels 0 0 0 0 0 0; "
            + "run 1 STATE; give 1 STATE; set 5 3 DONE; variable 5 3; box 1; run 1 STATE");
        play("program {(O!1@1A?a)A?a#I?b}; run 6 MORE; run 9 STATE; counts 1 0 0 7 0 1 3 0; channels 0 0 0 0 0 0; "
            + "run 1 STATE; give 1 STATE; box 1");
        play("program {(O!1@1)A?a#B!2}; run 9 STATE; counts 1 0 0 6 0 1 3 0; channels 0 0 0 0 0 0; "
            + "run 1 STATE; give 1 STATE; box 1");
    }
}
