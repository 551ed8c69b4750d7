/** The 1000th refusal of a house's life, and those behind it. */
final class LastRefusal {
    private LastRefusal() {
    }

    static void test() {
        Document.says("The 1001st one in the house's life, and each later one: nothing of it is told or counted, and the song"
            + " is OVER at once (the tick ends there, a FRAME that is not made is none).");
        thousandth();
        inNotes();
        inEffects();
        inFrames();
        missingPart();
        eachLaterOne();
    }

    /** A house with so many refusals behind it, and a module that the text tells. */
    private static Run behind(int refusals, String text) {
        Run run = Run.of("part 0 0 -1 speed 1, 0 -1 jump 0, 0 -1 none 0, 0 -1 none 0; order 0;");
        for (int ticks = refusals / 4; ticks > 0; ticks -= 64) {
            run.play(Math.min(ticks, 64));
        }
        run.feed(Check.bytes("part 0 0 -1 speed 1, -1 -1 jump 0; order 0;"));
        run.read(false);
        if (refusals % 4 > 0) {
            run.play(refusals % 4);
        }
        run.feed(Check.bytes(text));
        Check.due("read of " + text, run.read(false), 0);
        Check.due("refusals in the house's life", run.look(5), refusals);
        return run;
    }

    private static void thousandth() {
        String text = "part 0 0 -1 vol 7, 5 0 none 0; wave 0 short 9; loop 0 0 1; order 0;";
        for (int refusals : new int[] {0, 998, 999}) {
            Run run = behind(refusals, text);
            Check.due("it goes on", run.play(64), 6);
            run.eventsAre("told", 1);
            Check.due("counted", run.look(5), refusals + 1);
            run.voiceIs("its effect", 0, -1, 0, 0, 7);
            run.framesAre("frames", 0, 9, 9, 9, 9);
            Check.due("frames", run.look(6), 24);
        }
        Run run = behind(1000, text);
        Check.due("the tick counts", run.play(64), 1);
        run.eventsAre("not told");
        Check.due("not counted", run.look(5), 1000);
        run.at("over at once", 0, 0, 0, 1);
        Check.due("no frames", run.look(6), 0);
        Check.due("no frame", run.frame(0), 40000);
        run.changesNothing("play(64)", h -> Check.play(h, 64), 0);
        // two in one tick, the second of which is the 1001st
        run = behind(999, "part 0 0 -1 vol 7, 0 -1 vol 8, 0 -1 vol 9; order 0;");
        Check.due("the tick counts", run.play(2), 1);
        run.eventsAre("the 1000th", 1);
        Check.due("the 1000th", run.look(5), 1000);
        run.voiceIs("behind the 1000th", 0, -1, 0, 0, 7);
        run.voiceIs("behind the 1001st", 1, -1, 0, 0, 0);
        run.voiceIs("behind the 1001st", 2, -1, 0, 0, 0);
    }

    private static void inNotes() {
        Run run = behind(1000, "wave 0 short 9; part 0 5 0 vol 7, 5 -1 speed 3, 5 0 jump 5 . ; order 0;");
        Check.due("the tick counts", run.play(64), 1);
        run.voiceIs("ahead of it", 0, 0, 0, 21, 7, 0, 1);
        Check.due("its effect", run.look(3), 6);
        run.voiceIs("behind it", 2, -1, 0, 0, 0, 0, 0);
        run.at("over at once", 0, 0, 0, 1);
        Check.due("no frames", run.look(6), 0);
        run.eventsAre("not told");
    }

    private static void inEffects() {
        String items = "wave 0 byte 7 8; wave 1 short 9; gate 0 1 0; swell 0 5 6; order 0 0; part 0 0 0 none 0, ";
        String[] refusals = {"-1 -1 set 5", "-1 -1 turn 0", "-1 -1 swell 1", "-1 -1 lend 0", "-1 -1 lose 0", "-1 -1 copy 0",
            "-1 -1 swap 0", "-1 2 add 5", "-1 2 copy 0", "-1 0 copy 2", "-1 2 swap 0", "-1 0 swap 2", "-1 0 swap -1",
            "-1 1 open 0", "-1 0 shut 2", "-1 0 turn -1", "-1 1 swell 9", "-1 0 copy 1", "-1 0 copy 16", "-1 0 copy -1"};
        for (String refusal : refusals) {
            Run run = behind(1000, items + refusal + ", 0 0 set 3;");
            Check.due(refusal + ": the tick counts", run.play(64), 1);
            run.at(refusal, 0, 0, 0, 1);
            run.eventsAre(refusal);
            Check.due(refusal + ": not counted", run.look(5), 1000);
            Check.due(refusal + ": no frames", run.look(6), 0);
            run.voiceIs(refusal + ": ahead of it", 0, 0, 0, 16, 64, 0, 1);
            run.voiceIs(refusal + ": behind it", 2, -1, 0, 0, 0, 0, 0);
            run.cellsAre(refusal, 0, 7, 8);
        }
    }

    private static void inFrames() {
        // voice 1 comes to the end of its wave in the third frame of the second tick
        Run run = behind(1000, "wave 0 short 9; loop 0 0 1; wave 1 short 1 2 3 4 5 6; part 0 0 0 none 0, 48 1 none 0, 0 0 none 0;"
            + "order 0 0;");
        Check.due("the tick counts", run.play(64), 2);
        run.at("over at once", 0, 0, 1, 1);
        run.framesAre("frames that were made", 0, 19, 20, 21, 22, 23, 24, 40000);
        Check.due("frames that were made", run.look(6), 6);
        run.eventsAre("not told");
        Check.due("not counted", run.look(5), 1000);
        run.voiceIs("no voice behind it", 2, 0, 6 * 16, 16, 64, 1, 1);
        Check.due("no age", run.voice(0, 4), 1);
        run.changesNothing("play(1)", h -> Check.play(h, 1), 0);
        run = behind(1000, "part 0 0 0 none 0; order 0;");
        Check.due("the first frame", run.play(64), 1);
        Check.due("no frame", run.look(6), 0);
        run.at("over at once", 0, 0, 0, 1);
        // two in one frame
        run = behind(999, "part 0 0 0 none 0, 0 0 none 0, 0 0 none 0; order 0;");
        Check.due("the first frame", run.play(64), 1);
        run.eventsAre("the 1000th", 2);
        Check.due("no frame", run.look(6), 0);
        run.voiceIs("off by the 1000th", 0, 0, 0, 16, 64, 0, 0);
        run.voiceIs("not come to", 2, 0, 0, 16, 64, 0, 1);
    }

    private static void missingPart() {
        Run run = behind(1000, "order 0 1;");
        Check.due("a missing part is no refusal", run.play(64), 12);
        run.eventsAre("it is told", 64, 64 + 128 * 6);
    }

    private static void eachLaterOne() {
        Run run = behind(1000, "wave 0 short 9; loop 0 0 1; part 0 0 0 none 0 . 0 0 off 1 . ; order 0;");
        for (int i = 0; i < 3; i++) {
            Check.due("up to the refusal", run.play(64), 7);
            run.at("over at once", 0, 1, 0, 1);
            Check.due("frames", run.look(6), 24);
            run.eventsAre("not told");
            Check.due("not counted", run.look(5), 1000);
            Check.due("again", run.again(), true);
            run.at("again", 0, 0, 0, 0);
        }
        Check.due("pack", run.pack() > 0, true);
        Check.due("take", run.take(), true);
        Check.due("the house's life goes on", run.look(5), 1000);
        Check.due("up to the refusal", run.play(64), 7);
        run.eventsAre("not told");
    }
}
