import java.util.Arrays;
import java.util.function.IntToLongFunction;
import java.util.function.ToLongFunction;

/** Bounds of the calls: promises 1 to 18, the 512 calls, and that a call that throws changes nothing. */
final class CallBounds {
    private static final int LEAST = Integer.MIN_VALUE;
    private static final int MOST = Integer.MAX_VALUE;
    private static final String RICH = "wave 0 byte 1 2 3; wave 2 float 5; loop 0 0 3; gate 0 1 0; swell 0 64 32 16;"
        + "part 0 50 0 none 0, 50 -1 none 0 . 52 0 set 5 . -1 -1 none 0; order 0 1 0;";

    private CallBounds() {
    }

    static void test() {
        newObject();
        feed();
        feedBytes();
        end();
        read();
        again();
        play();
        mute();
        look();
        voice();
        instrument();
        cell();
        gateAndSwell();
        frame();
        event();
        pack();
        packed();
        take();
        ownMemory();
        calls();
    }

    /** Runs in several states: new, with a tape, with a module, on its way, over, and behind a fault. */
    private static Run[] states() {
        Run tape = new Run();
        tape.feed(1, 2, 3, 4, 5);
        Run packed = Run.played(RICH, 9);
        packed.pack();
        packed.mute(1, true);
        packed.feed(1, 2, 3, 4, 5);
        Run over = Run.of(RICH);
        over.play(64);
        Run fault = Run.played(RICH, 5);
        fault.pack();
        fault.read(true);
        return new Run[] {new Run(), tape, Run.of(RICH), Run.played(RICH, 9), packed, over, fault};
    }

    private static boolean hasModule(Run run) {
        return run.look(9) > 0;
    }

    private static void newObject() {
        Document.says("An empty tape, no module.");
        Run run = new Run();
        for (int what = -1; what <= 10; what++) {
            Check.due("look(" + what + ")", run.look(what), what == 8 ? 0 : -1);
            for (int k = 0; k < 16; k++) {
                Check.due("voice", run.voice(k, what), -1);
                Check.due("instrument", run.instrument(k, what), -1);
            }
        }
        Check.due("cell", run.cell(0, 0), Check.NO_CELL);
        Check.due("gate", run.gate(0, 0), -1);
        Check.due("swell", run.swell(0, 0), -1);
        Check.due("frame", run.frame(0), 40000);
        Check.due("event", run.event(0), -1);
        Check.due("packed", run.packed(0), -1);
        run.changesNothing("again", h -> h.again() ? 1 : 0, 0);
        run.changesNothing("play", h -> Check.play(h, 1), Check.NO_ELEMENT);
        run.changesNothing("pack", TrackerHouse::pack, -1);
        run.changesNothing("take", h -> h.take() ? 1 : 0, 0);
        run.changesNothing("end(0)", h -> h.end(0) ? 1 : 0, 1);
        run.changesNothing("end(1)", h -> h.end(1) ? 1 : 0, 0);
        Check.due("an empty text", new Run().read(false), 6);
        Check.due("an empty container", new Run().read(true), 7);
    }

    private static void feed() {
        Document.says("Twenty bytes come behind the tape, four in each number, the highest first: true; false, and nothing"
            + " happens, if it would have more than 6000.");
        Run run = new Run();
        for (int i = 1; i <= 300; i++) {
            Check.due("feed " + i, run.feed(i, LEAST, MOST, -i, 0), true);
            Check.due("bytes of the tape", run.calls() < 200 ? run.look(8) : 20 * i, 20 * i);
        }
        Check.due("full", run.look(8), 6000);
        run.changesNothing("feed to a full tape", h -> h.feed(1, 2, 3, 4, 5) ? 1 : 0, 0);
        for (int length : new int[] {5999, 5990, 5981}) {
            Check.due("end", run.end(length), true);
            run.changesNothing("feed to " + length, h -> h.feed(1, 2, 3, 4, 5) ? 1 : 0, 0);
            Check.due("bytes of the tape", run.look(8), length);
        }
        Check.due("end", run.end(5980), true);
        Check.due("feed to 5980", run.feed(1, 2, 3, 4, 5), true);
        Check.due("full again", run.look(8), 6000);
        Check.due("end", run.end(0), true);
        Check.due("feed to an empty one", run.feed(1, 2, 3, 4, 5), true);
        Check.due("bytes of the tape", run.look(8), 20);
    }

    /** Each of the twenty bytes stands where it should, with all its 8 bits: a container's cells tell them. */
    private static void feedBytes() {
        Run run = new Run();
        // head, INSTRUMENT 0 with a WAVE of 61 cells of 1 byte, behind which the container ends too early
        run.feed(0x544D0100, 0x3D80FF7F, 0x00010203, 0x04050607, 0x08090A0B);
        Check.due("a feed", run.feed(LEAST, MOST, -1, 0x01234567, 0x89ABCDEF), true);
        byte[] rest = Box.of(Check.row(), Box.NOTHING, Box.ORDER);
        run.feed(Check.join(new byte[26], Arrays.copyOfRange(rest, 2, rest.length)));
        Check.due("read", run.read(true), 0);
        int[] due = {-128, -1, 127, 0, 1, 2, 3, 4, 5, 6, 7, 8, 9, 10, 11, -128, 0, 0, 0, 127, -1, -1, -1, -1, -1, -1, -1,
            0x01, 0x23, 0x45, 0x67, (byte) 0x89, (byte) 0xAB, (byte) 0xCD, (byte) 0xEF, 0};
        for (int i = 0; i < due.length; i++) {
            Check.due("byte " + i, run.cell(0, i), due[i]);
        }
    }

    private static void end() {
        Document.says("The tape has its first n bytes alone; false, and nothing happens, if it has not so many, or n is below"
            + " 0.");
        for (Run run : states()) {
            int length = run.look(8);
            for (int n : new int[] {-1, LEAST, length + 1, MOST, 6000, 6001}) {
                run.changesNothing("end(" + n + ") of " + length, h -> h.end(n) ? 1 : 0, 0);
            }
            run.changesNothing("end(" + length + ") of as many", h -> h.end(length) ? 1 : 0, 1);
        }
        Run run = new Run();
        run.feed(Check.bytes("order 0; order 0; ?"));
        Check.due("end(8)", run.end(8), true);
        Check.due("bytes", run.look(8), 8);
        run.changesNothing("end(9)", h -> h.end(9) ? 1 : 0, 0);
        run.feed(Check.bytes(" part 0; ?"));
        Check.due("the bytes behind", run.read(false), 1 + 16 * 17);
        run.feed(Check.bytes("order 0;"));
        Check.due("end(1)", run.end(1), true);
        Check.due("end(0)", run.end(0), true);
        Check.due("nothing is left", run.read(false), 6);
        run = new Run();
        for (int i = 0; i < 300; i++) {
            run.feed(0x20202020, 0x20202020, 0x20202020, 0x20202020, 0x20202020);
        }
        Check.due("end(6000)", run.end(6000), true);
        Check.due("end(6001)", run.end(6001), false);
        Check.due("end(5999)", run.end(5999), true);
        Check.due("end(6000) of 5999", run.end(6000), false);
        Check.due("5999 bytes", run.read(false), 6 + 16 * 5999);
    }

    private static void read() {
        Document.says("The tape, which is empty then, is read as a text (container false) or container: 0, and it is the"
            + " module, at the beginning; its FAULT and 16 times the place: there is none.");
        byte[] box = Box.instrument(Check.row(1, 0, 1, 9));
        for (Run run : states()) {
            run.end(0);
            run.feed(Check.bytes("order 7 7;"));
            Check.due("a text", run.read(false), 0);
            Check.due("the tape is empty then", run.look(8), 0);
            Check.due("it is the module", run.look(9), 2);
            Check.due("nothing of the last one", run.instrument(0, 0), -1);
            run.at("at the beginning", 0, 0, 0, 0);
            run.feed(box);
            Check.due("a container", run.read(true), 0);
            Check.due("the tape is empty then", run.look(8), 0);
            run.cellsAre("it is the module", 0, 9);
            run.at("at the beginning", 0, 0, 0, 0);
            run.feed(box);
            Check.due("a container as a text", run.read(false), 1);
            Check.due("the tape is empty then", run.look(8), 0);
            Check.due("there is none", run.look(9), -1);
            run.feed(Check.bytes("order 7 7;"));
            Check.due("a text as a container", run.read(true), 7);
            Check.due("the tape is empty then", run.look(8), 0);
            Check.due("there is none", run.look(9), -1);
            Check.due("an empty text", run.read(false), 6);
            Check.due("an empty container", run.read(true), 7);
        }
        // what a full module had is not in the next one, whichever way that comes
        StringBuilder full = new StringBuilder("order " + Texts.times("0 ", 32) + ";");
        for (int n = 0; n < 16; n++) {
            full.append("wave N byte 1 2;gate N 1 1;swell N 1 1;loop N 0 2;part N 50 3 none 0 . ;".replace("N", "" + n));
        }
        Run empty = Run.of("order 0;");
        for (int way = 0; way < 3; way++) {
            Run run = Run.of(full.toString());
            if (way == 0) {
                run.feed(Check.bytes("order 0;"));
            } else {
                run.feed(Box.of(Box.NOTHING, Box.NOTHING, Box.ORDER));
            }
            Check.due("read", run.read(way > 0), 0);
            if (way == 2) {
                run.pack();
                run.feed(Check.bytes(full.toString()));
                Check.due("read", run.read(false), 0);
                Check.due("take", run.take(), true);
            }
            run.sameAs("nothing of the last one", empty, CallBounds::tellsContainer);
        }
    }

    /** Answers that tell a container which was packed before. */
    private static boolean tellsContainer(String name) {
        return name.contains("packed") && !name.startsWith("then pack()") || name.contains("take()");
    }

    private static void again() {
        Document.says("The song is at its beginning again (WAVES, GATES, SWELLS stay as they are): true; false without a"
            + " module.");
        for (Run run : states()) {
            if (!hasModule(run)) {
                run.changesNothing("again without a module", h -> h.again() ? 1 : 0, 0);
            } else {
                Check.due("again", run.again(), true);
                run.at("again", 0, 0, 0, 0);
                run.voiceIs("again", 0, -1, 0, 0, 0, 0, 0);
                Check.due("no frames", run.frame(0), 40000);
                run.eventsAre("again");
                run.changesNothing("again at the beginning", h -> h.again() ? 1 : 0, 1);
            }
        }
        Run run = Run.played("wave 0 byte 1 2; wave 1 byte 3; gate 0 1; swell 0 0;"
            + "part 0 50 0 bump 0, -1 0 shut 0, -1 0 swell 32, -1 1 lend 0; order 0;", 1);
        Check.due("again", run.again(), true);
        run.cellsAre("waves stay", 0, 2, 2);
        Check.due("gates stay", run.gate(0, 0), 0);
        Check.due("swells stay", run.swell(0, 0), Texts.bits(0.5f));
        Check.due("what is lent stays", run.instrument(1, 6), 0);
        run.play(1);
        run.cellsAre("once more", 0, 3, 2);
        Check.due("once more", run.swell(0, 0), Texts.bits(1f));
        leapsAreOver();
    }

    /** What a row has told to come does not come behind a new beginning. */
    private static void leapsAreOver() {
        String text = "part 0 . -1 -1 jump 5 . ; order 0 0;";
        for (int way = 0; way < 3; way++) {
            Run run = Run.of(text);
            run.pack();
            run.play(8);
            run.at("within the row that told it", 0, 1, 2, 0);
            if (way == 0) {
                run.again();
            } else if (way == 1) {
                run.take();
            } else {
                run.feed(Check.bytes(text));
                run.read(false);
            }
            run.play(6);
            run.at("the next row", 0, 1, 0, 0);
            run.play(6);
            run.at("told anew", 5, 0, 0, 1);
        }
    }

    private static void play() {
        Document.says("At most n ticks (1 .. 64), as long as the song is not OVER: how many were made (one in which it became"
            + " OVER by a refusal counts). Throws IllegalArgumentException for another n; NoSuchElementException without a"
            + " module.");
        for (Run run : states()) {
            for (int n : new int[] {0, -1, 65, 66, 128, 256, MOST, LEAST}) {
                run.changesNothing("play(" + n + ")", h -> Check.play(h, n), Check.BAD_ARGUMENT);
            }
            if (!hasModule(run)) {
                for (int n : new int[] {1, 64}) {
                    run.changesNothing("play(" + n + ") without a module", h -> Check.play(h, n), Check.NO_ELEMENT);
                }
            }
        }
        Run run = Run.of("part 0 -1 -1 jump 0; order 0;");
        for (int n : new int[] {1, 2, 63, 64}) {
            int before = run.look(6);
            Check.due("play(" + n + ")", run.play(n), n);
            Check.due("ticks", run.look(6) - before, 4 * n);
        }
        for (int n = 1; n <= 7; n++) {
            run = Run.of("part 0 ; order 0;");
            Check.due("play(" + n + ") of 6 ticks", run.play(n), Math.min(n, 6));
            Check.due("what is left", run.play(64), n < 6 ? 6 - n : 0);
            Check.due("nothing is left", run.play(64), 0);
        }
    }

    private static void mute() {
        Document.says("Voice v is MUTED from now on, or not: true; false without such a voice.");
        for (Run run : states()) {
            for (int v : new int[] {-1, 4, MOST, LEAST}) {
                run.changesNothing("mute(" + v + ", true)", h -> h.mute(v, true) ? 1 : 0, 0);
                run.changesNothing("mute(" + v + ", false)", h -> h.mute(v, false) ? 1 : 0, 0);
            }
            for (int v : new int[] {0, 3}) {
                Check.due("mute(" + v + ", true)", run.mute(v, true), true);
                Check.due("muted", run.voice(v, 6), hasModule(run) ? 1 : -1);
                Check.due("mute(" + v + ", true) again", run.mute(v, true), true);
                Check.due("muted", run.voice(v, 6), hasModule(run) ? 1 : -1);
                Check.due("mute(" + v + ", false)", run.mute(v, false), true);
                Check.due("not muted", run.voice(v, 6), hasModule(run) ? 0 : -1);
            }
        }
        Run run = Run.of("wave 0 short 7; loop 0 0 1; part 0 0 0 none 0; order 0;");
        run.play(1);
        run.mute(0, true);
        run.framesAre("not from before", 0, 7, 7, 7, 7);
        run.play(1);
        run.framesAre("from now on", 4, 0, 0, 0, 0);
        run.mute(0, false);
        run.play(1);
        run.framesAre("no more", 8, 7, 7, 7, 7);
        run = new Run();
        Check.due("without a module", run.mute(3, true), true);
        run.feed(Check.bytes("order 0;"));
        run.read(false);
        Check.due("it stays", run.voice(3, 6), 1);
        Check.due("the others", run.voice(2, 6), 0);
    }

    private static void look() {
        Document.says("What is so: 0 the place of the ORDER, 1 the row, 2 the tick, 3 SPEED, 4 whether the song is OVER, 5"
            + " refusals in the house's life, 6 FRAMES, 7 EVENTS (all counted), 8 bytes of the tape, 9 how long the ORDER is."
            + " NONE for another what, and for all but 8 without a module.");
        Run run = Run.of("part 0 0 -1 speed 3; part 1 . 0 -1 none 0; order 0 5 1;");
        run.play(10);
        run.feed(1, 2, 3, 4, 5);
        int[] due = {2, 1, 1, 3, 0, 2, 40, 3, 20, 3};
        for (int what = 0; what < 10; what++) {
            Check.due("look(" + what + ")", run.look(what), due[what]);
        }
        Check.due("to the end", run.play(64), 2);
        Check.due("over", run.look(4), 1);
        for (int what : new int[] {-1, 10, 11, MOST, LEAST}) {
            Check.due("look(" + what + ")", run.look(what), -1);
        }
        run.again();
        Check.due("refusals of the house's life", run.look(5), 2);
        Check.due("events since the beginning", run.look(7), 0);
        Check.due("a fault", run.read(true), 7);
        run.feed(1, 2, 3, 4, 5);
        for (int what = -1; what < 11; what++) {
            Check.due("look(" + what + ") without a module", run.look(what), what == 8 ? 20 : -1);
        }
        run.end(0);
        run.feed(Check.bytes("order 0;"));
        run.read(false);
        Check.due("refusals of the house's life", run.look(5), 2);
    }

    private static void voice() {
        Document.says("Of a voice, what 0 its INSTRUMENT (NONE), 1 POSITION, 2 STEP, 3 VOLUME, 4 AGE, 5 whether it is ON, 6"
            + " whether MUTED. NONE without it or a module, or for another what.");
        Run run = Run.of("wave 9 byte 1 2 3; part 0 -1 9 vol 5, 24 9 none 0, -1 -1 none 0, 0 9 off 1; order 0;");
        run.mute(3, true);
        run.play(2);
        run.voiceIs("voice 0", 0, 9, 0, 0, 5, 0, 0, 0, -1);
        run.voiceIs("voice 1", 1, 9, 512, 64, 64, 2, 1, 0, -1);
        run.voiceIs("voice 2", 2, -1, 0, 0, 0, 0, 0, 0, -1);
        run.voiceIs("voice 3", 3, 9, 256 + 128, 16, 64, 2, 1, 1, -1);
        for (int what = -1; what < 8; what++) {
            for (int v : new int[] {-1, 4, MOST, LEAST}) {
                Check.due("voice(" + v + ", " + what + ")", run.voice(v, what), -1);
            }
        }
        for (int what : new int[] {-1, 7, MOST, LEAST}) {
            Check.due("voice(0, " + what + ")", run.voice(0, what), -1);
        }
        run.read(true);
        for (int what = 0; what < 7; what++) {
            Check.due("voice(3, " + what + ") without a module", run.voice(3, what), -1);
        }
    }

    private static void instrument() {
        Document.says("Of an INSTRUMENT, what 0 the KIND of its WAVE, 1 how many CELLS, 2 truths of its GATE, 3 reals of its"
            + " SWELL (0 to 3 NONE without it), 4 A, 5 B of its LOOP (NONE), 6 the least INSTRUMENT with the same cells (NONE"
            + " without a WAVE). NONE without it or a module, or for another what.");
        Run run = Run.of("wave 0 double 1 2; gate 0 1 1 1; swell 0 1 1 1 1; loop 0 0 64; wave 15 byte 1; gate 14 1; swell 13 1;"
            + "loop 12 5 6; part 0 -1 15 lend 0, -1 3 lend 15, -1 2 lend 9; order 0;");
        run.play(1);
        int[][] due = {{6, 2, 3, 4, 0, 64, 0}, {-1, -1, -1, -1, -1, -1, -1}, {-1, -1, -1, -1, -1, -1, -1},
            {6, 2, -1, -1, -1, -1, 0}, {-1, -1, -1, -1, 5, 6, -1}, {-1, -1, -1, 1, -1, -1, -1},
            {-1, -1, 1, -1, -1, -1, -1}, {6, 2, -1, -1, -1, -1, 0}};
        int[] asked = {0, 1, 2, 3, 12, 13, 14, 15};
        for (int i = 0; i < asked.length; i++) {
            for (int what = 0; what < 7; what++) {
                Check.due("instrument(" + asked[i] + ", " + what + ")", run.instrument(asked[i], what), due[i][what]);
            }
            for (int what : new int[] {-1, 7, MOST, LEAST}) {
                Check.due("instrument(" + asked[i] + ", " + what + ")", run.instrument(asked[i], what), -1);
            }
        }
        for (int k : new int[] {-1, 16, MOST, LEAST}) {
            for (int what = -1; what < 8; what++) {
                Check.due("instrument(" + k + ", " + what + ")", run.instrument(k, what), -1);
            }
        }
        run.read(true);
        for (int what = 0; what < 7; what++) {
            Check.due("instrument(0, " + what + ") without a module", run.instrument(0, what), -1);
        }
        // the least of those that are left
        run = Run.played("wave 9 byte 1; part 0 -1 4 lend 9, -1 2 lend 4, -1 2 lose 0 . -1 4 lose 0; order 0;", 1);
        Check.due("the least is lost", run.instrument(9, 6), 4);
        Check.due("lost", run.instrument(2, 6), -1);
        run.play(6);
        Check.due("the last one", run.instrument(9, 6), 9);
    }

    private static void cell() {
        Document.says("Cell i of an INSTRUMENT's WAVE (reals: their bits). Throws NoSuchElementException when there is none.");
        Run run = Run.of("wave 0 byte " + Texts.numbers(64) + "; wave 15 float 256 -256; wave 7 double 256 -256; order 0;");
        Check.due("the first", run.cell(0, 0), 1);
        Check.due("the last", run.cell(0, 63), 64);
        run.cellsAre("bits", 15, 0x3F800000, 0xBF800000);
        run.cellsAre("bits", 7, 0x3FF0000000000000L, 0xBFF0000000000000L);
        int[][] none = {{0, 64}, {0, -1}, {0, MOST}, {0, LEAST}, {1, 0}, {15, 2}, {16, 0}, {-1, 0}, {MOST, 0}, {LEAST, 0},
            {14, 0}, {MOST, MOST}, {LEAST, LEAST}};
        for (int[] asked : none) {
            run.changesNothing("cell(" + asked[0] + ", " + asked[1] + ")", h -> Check.cell(h, asked[0], asked[1]), Check.NO_CELL);
        }
        for (Run other : states()) {
            if (!hasModule(other)) {
                other.changesNothing("cell(0, 0) without a module", h -> Check.cell(h, 0, 0), Check.NO_CELL);
            }
        }
        // cells of a longer wave that was there before
        run = Run.of("wave 0 byte " + Texts.numbers(64) + "; order 0;");
        run.feed(Check.bytes("wave 0 byte 1 2; order 0;"));
        run.read(false);
        run.cellsAre("a shorter one", 0, 1, 2);
    }

    private static void gateAndSwell() {
        Document.says("Truth i of an INSTRUMENT's GATE: 1, 0; NONE when there is none.");
        Run run = Run.of("gate 15 0 1; gate 0 " + Texts.times("1 ", 32) + "; swell 15 0 64; swell 0 " + Texts.times("1 ", 16)
            + "; order 0;");
        Check.due("the first", run.gate(15, 0), 0);
        Check.due("the last", run.gate(15, 1), 1);
        Check.due("the last of 32", run.gate(0, 31), 1);
        int[][] none = {{15, 2}, {15, -1}, {0, 32}, {0, -1}, {0, MOST}, {0, LEAST}, {1, 0}, {16, 0}, {-1, 0}, {MOST, 0}, {LEAST, 0}};
        for (int[] asked : none) {
            Check.due("gate(" + asked[0] + ", " + asked[1] + ")", run.gate(asked[0], asked[1]), -1);
        }
        Document.says("The bits of real i of an INSTRUMENT's SWELL; NONE when there is none.");
        Check.due("the first", run.swell(15, 0), 0);
        Check.due("the last", run.swell(15, 1), Texts.bits(1f));
        Check.due("the last of 16", run.swell(0, 15), Texts.bits(1 / 64f));
        none[2][1] = 16;
        for (int[] asked : none) {
            Check.due("swell(" + asked[0] + ", " + asked[1] + ")", run.swell(asked[0], asked[1]), -1);
        }
        // longer ones that were there before, and no module
        run.feed(Check.bytes("gate 0 1; swell 0 1; order 0;"));
        run.read(false);
        Check.due("a shorter gate", run.gate(0, 1), -1);
        Check.due("a shorter swell", run.swell(0, 1), -1);
        Check.due("none", run.gate(15, 0), -1);
        run.read(false);
        Check.due("gate without a module", run.gate(0, 0), -1);
        Check.due("swell without a module", run.swell(0, 0), -1);
    }

    private static void frame() {
        Document.says("FRAME k, counted from the beginning (the latest 256 are kept); 40000 when there is none, or it is not"
            + " kept.");
        String text = "wave 0 short " + Texts.numbers(63) + "; loop 0 0 63; part 0 48 0 speed 12 . . . . . . . . . . ; order 0;";
        for (int ticks : new int[] {1, 63, 64, 65, 66, 128}) {
            Run run = Run.of(text);
            for (int left = ticks; left > 0; left -= 64) {
                run.play(Math.min(left, 64));
            }
            int count = 4 * ticks;
            int first = Math.max(0, count - 256);
            Check.due("how many", run.look(6), count);
            for (int k : new int[] {0, first - 2, first - 1, first, first + 1, count - 2, count - 1, count, count + 1,
                first + 255, first + 256}) {
                int due = k >= first && k < count ? k % 63 + 1 : 40000;
                Check.due("frame(" + k + ") of " + count, run.frame(k), due);
            }
            for (int k : new int[] {-1, -256, LEAST, MOST}) {
                Check.due("frame(" + k + ")", run.frame(k), 40000);
            }
            for (int k = first; k < count; k++) {
                Check.due("frame(" + k + ") of " + count, run.frame(k), k % 63 + 1);
            }
            run.again();
            Check.due("none at the beginning", run.frame(0), 40000);
            run.read(false);
            Check.due("none without a module", run.frame(0), 40000);
        }
    }

    private static void event() {
        Document.says("EVENT k since the beginning (the first 100 are kept): its number (1 to 8; 0 MISSING PART) and 16 times the"
            + " voice (4 without one) and 128 times how many ticks were over; NONE when there is none such.");
        String text = "part 0 0 -1 speed 1, -1 -1 jump 0, -1 -1 none 0, -1 -1 set 0; order 0;";
        for (int ticks : new int[] {1, 49, 50, 51, 64}) {
            Run run = Run.played(text, ticks);
            Check.due("all counted", run.look(7), 2 * ticks);
            for (int k = 0; k < 2 * ticks; k++) {
                int due = k < 100 ? 1 + 16 * (k % 2 * 3) + 128 * (k / 2) : -1;
                Check.due("event(" + k + ") of " + 2 * ticks, run.event(k), due);
            }
            for (int k : new int[] {-1, 2 * ticks, 100, 101, MOST, LEAST}) {
                Check.due("event(" + k + ") of " + 2 * ticks, run.event(k), -1);
            }
            run.again();
            Check.due("none at the beginning", run.event(0), -1);
            run.play(1);
            Check.due("counted anew", run.event(1), 1 + 48);
            run.read(false);
            Check.due("none without a module", run.event(0), -1);
        }
        Run run = Run.played("part 0 0 -1 speed 1 . 0 -1 none 0 . ; order 7 0;", 7);
        run.eventsAre("a missing part and others", 64, 1 + 128 * 6);
        // 101 events: the last one is counted, not kept
        run = Run.of("part 0 0 -1 speed 1, 0 -1 jump 0; part 1; order 0;");
        run.play(50);
        Check.due("100", run.event(99), 1 + 16 + 128 * 49);
        run.play(1);
        Check.due("102", run.look(7), 102);
        Check.due("not kept", run.event(100), -1);
        Check.due("the first ones stay", run.event(0), 1);
    }

    private static void pack() {
        Document.says("The module as it is now becomes the container: how many bytes; NONE without a module.");
        for (Run run : states()) {
            if (!hasModule(run)) {
                run.changesNothing("pack without a module", TrackerHouse::pack, -1);
            }
        }
        Check.due("the least", Run.of("order 0;").pack(), 36);
        Run run = Run.of("wave 0 byte 1 2; gate 0 0; swell 0 0; loop 0 0 1; part 0 -1 0 set 9, -1 0 open 0, -1 0 swell 64, -1 1 lend 0 ."
            + "-1 0 lose 0; order 0;");
        int size = run.pack();
        Check.due("a cell before", run.packed(5), 1);
        run.play(1);
        Check.due("as it was", run.packed(5), 1);
        Check.due("another wave", run.pack(), size + 4);
        int[] due = {84, 77, 15, 0, 2, 9, 2, 1, 128, 1, 0x3F, 0x80, 0, 0, 0, 1, 1, 0, 2, 9, 2, 0};
        for (int i = 0; i < due.length; i++) {
            Check.due("as it is now: " + i, run.packed(i), due[i]);
        }
        run.play(6);
        Check.due("one wave less", run.pack(), size);
        Check.due("without a wave", run.packed(2), 14);
        // packing changes nothing but what is packed
        Run played = Run.played(RICH, 9);
        Run packing = Run.played(RICH, 9);
        packing.pack();
        packing.sameAs("all but the container", played, name -> name.contains("packed") || name.contains("take"));
        // the largest container of all that a text can tell
        StringBuilder text = new StringBuilder("order " + Texts.times("0 ", 32) + ";");
        for (int k = 0; k < 16; k++) {
            text.append("wave ").append(k).append(" long ").append(Texts.times("1 ", 64)).append(";");
            text.append("gate ").append(k).append(" ").append(Texts.times("1 ", 32)).append(";");
            text.append("swell ").append(k).append(" ").append(Texts.times("1 ", 16)).append(";");
            text.append("loop ").append(k).append(" 0 1;part ").append(k).append(' ').append(Texts.times(".", 31)).append(';');
        }
        run = Run.of(text.toString());
        size = 2 + 16 * (1 + 2 + 512 + 1 + 4 + 1 + 64 + 2) + 16 * 33 + 33;
        Check.due("full", run.pack(), size);
        Check.due("its last byte", run.packed(size - 1), 0);
        Check.due("no byte behind", run.packed(size), -1);
        Check.due("take", run.take(), true);
        Check.due("its last cell", run.cell(15, 63), 1);
        Check.due("once more", run.pack(), size);
        largest();
    }

    /** A WAVE that all INSTRUMENTS are lent, and a text full of NOTES: more than twice the tape's bytes. */
    private static void largest() {
        StringBuilder text = new StringBuilder("order 0;wave 0 long " + Texts.times("1 ", 64) + ";part 0");
        for (int k = 1; k < 16; k++) {
            text.append(k == 1 ? "-1 " : ".-1 ").append(k).append("lend0");
        }
        text.append(";");
        int size = 2 + 16 * (3 + 512) + (1 + 15 * 8) + 15 + 2;
        String note = "0-1up7";
        for (int p = 1; p < 16 && text.length() < 5800; p++) {
            text.append("part ").append(p).append(' ').append(note);
            size += 8;
            for (int n = 1; n < 128 && text.length() < 5980; n++) {
                text.append(n % 4 == 0 ? '.' : ',').append(note);
                size += n % 4 == 0 ? 8 : 7;
            }
            text.append(';');
        }
        Run run = Run.of(text.toString());
        Check.due("as long as the song", run.play(64) + run.play(64), 90);
        Check.due("the largest of all", run.pack(), size);
        Check.due("more than twice the tape's bytes", size > 13000, true);
        Check.due("its last byte", run.packed(size - 1), 0);
        Check.due("no byte behind", run.packed(size), -1);
        Check.due("take", run.take(), true);
        for (int k = 0; k < 16; k++) {
            Check.due("cells", run.cell(k, 63), 1);
            Check.due("cells of its own", run.instrument(k, 6), k);
        }
        Check.due("once more", run.pack(), size);
        Check.due("its last byte", run.packed(size - 1), 0);
    }

    private static void packed() {
        Document.says("Byte i of the container packed latest (0 .. 255); NONE when there is none.");
        Run run = Run.of("wave 0 byte -1 -128 127 0; order 3 5;");
        for (int i : new int[] {0, 1, 36, -1, MOST, LEAST}) {
            Check.due("packed(" + i + ") of none", run.packed(i), -1);
        }
        int size = run.pack();
        Check.due("bytes", size, 43);
        int[] due = {84, 77, 1, 0, 4, 255, 128, 127, 0};
        for (int i = 0; i < due.length; i++) {
            Check.due("packed(" + i + ")", run.packed(i), due[i]);
        }
        Check.due("the last one", run.packed(size - 1), 5);
        for (int i : new int[] {-1, size, size + 1, 6000, 24290, 30000, MOST, LEAST}) {
            Check.due("packed(" + i + ")", run.packed(i), -1);
        }
        run.feed(Check.bytes("order 9;"));
        run.read(false);
        Check.due("another module: packed latest", run.packed(size - 1), 5);
        Check.due("a shorter one", run.pack(), 36);
        Check.due("its last byte", run.packed(35), 9);
        Check.due("none behind it", run.packed(36), -1);
        run.read(false);
        Check.due("no module", run.pack(), -1);
        Check.due("packed latest", run.packed(35), 9);
    }

    private static void take() {
        Document.says("The container packed latest is read as the module, at the beginning (it has no FAULT): true; false, and"
            + " nothing happens, without one.");
        for (Run run : states()) {
            if (run.packed(0) < 0) {
                run.changesNothing("take without a container", h -> h.take() ? 1 : 0, 0);
            } else {
                int bytes = run.look(8);
                Check.due("take", run.take(), true);
                run.at("at the beginning", 0, 0, 0, 0);
                run.voiceIs("at the beginning", 0, -1, 0, 0, 0, 0, 0);
                Check.due("no frames", run.look(6), 0);
                run.eventsAre("at the beginning");
                Check.due("the tape stays", run.look(8), bytes);
                run.changesNothing("take once more", h -> h.take() ? 1 : 0, 1);
            }
        }
        Run run = Run.of("wave 0 byte 1 2; wave 1 byte 3; part 0 -1 0 set 9, -1 1 lend 0; order 0;");
        run.pack();
        run.play(1);
        run.cellsAre("changed", 0, 9, 2);
        Check.due("take", run.take(), true);
        run.cellsAre("as it was packed", 0, 1, 2);
        run.cellsAre("as it was packed", 1, 3);
        run.play(1);
        run.pack();
        Check.due("take", run.take(), true);
        run.cellsAre("a lent wave", 1, 9, 2);
        Check.due("has cells of its own then", run.instrument(1, 6), 1);
        run.feed(Check.bytes("?"));
        run.read(false);
        Check.due("take without a module", run.take(), true);
        run.cellsAre("packed latest", 1, 9, 2);
    }

    /** Two houses that are used by turns are as two that are used alone. */
    private static void ownMemory() {
        Document.says("All memory is the class's own; a call that throws changes nothing.");
        String other = "wave 0 byte 50 51 52; gate 0 0; swell 0 5; loop 0 1 3; part 0 60 0 bump 0 . 48 0 lose 0; order 0 0;";
        TrackerHouse one = Check.house(RICH);
        TrackerHouse two = Check.house(other);
        for (int t = 0; t < 20; t++) {
            one.play(1);
            two.play(1);
            one.pack();
        }
        same("the first", one, Check.house(RICH), 20);
        same("the second", two, Check.house(other), 20);
        Check.due("packed by the other", two.packed(0), -1);
        // calls that throw, in all states
        for (Run run : states()) {
            run.changesNothing("play(0)", h -> Check.play(h, 0), Check.BAD_ARGUMENT);
            run.changesNothing("play(65)", h -> Check.play(h, 65), Check.BAD_ARGUMENT);
            run.changesNothing("cell(0, 64)", h -> Check.cell(h, 0, 64), Check.NO_CELL);
            run.changesNothing("cell(16, 0)", h -> Check.cell(h, 16, 0), Check.NO_CELL);
            if (!hasModule(run)) {
                run.changesNothing("play(1)", h -> Check.play(h, 1), Check.NO_ELEMENT);
                run.changesNothing("cell(0, 0)", h -> Check.cell(h, 0, 0), Check.NO_CELL);
            }
        }
        Document.leaves("(Wholes and their counts don't come near their ends but in cells.)");
    }

    private static void same(String what, TrackerHouse house, TrackerHouse alone, int ticks) {
        alone.play(ticks);
        for (int i = 0; i < 10; i++) {
            Check.due(what + ": look " + i, house.look(i), alone.look(i));
        }
        for (int i = 0; i < 28; i++) {
            Check.due(what + ": voice " + i, house.voice(i / 7, i % 7), alone.voice(i / 7, i % 7));
        }
        for (int i = 0; i < 3; i++) {
            Check.due(what + ": cell " + i, Check.cell(house, 0, i), Check.cell(alone, 0, i));
            Check.due(what + ": gate " + i, house.gate(0, i), alone.gate(0, i));
            Check.due(what + ": swell " + i, house.swell(0, i), alone.swell(0, i));
        }
        for (int i = 0; i < 80; i++) {
            Check.due(what + ": frame " + i, house.frame(i), alone.frame(i));
        }
    }

    /** Houses that have all their 512 calls. */
    private static void calls() {
        Document.says("An object is used for at most 512 calls after it has been made; what later calls answer is free.");
        Run run = new Run();
        run.feed(Check.bytes(Texts.times(" ", 6000)));
        Check.due("a tape full of blanks", run.read(false), 6 + 16 * 6000);
        run.feed(Check.bytes("wave 0 short 7; loop 0 0 1; part 0 0 0 jump 0, 0 -1 none 0; order 0;"));
        Check.due("read", run.read(false), 0);
        int ticks = 0;
        while (run.calls() < Run.MOST_CALLS - 1) {
            // a refusal in each row of 6 ticks
            Check.due("call " + (run.calls() + 1), run.play(28), 28);
            ticks += 28;
        }
        Check.due("ticks", ticks > 5500 && ticks < 6000, true);
        Check.due("call 512", run.look(6), 4 * ticks);
        Check.due("calls", run.calls(), Run.MOST_CALLS);
        everyCall(h -> h.feed(1, 2, 3, 4, 5) ? 1 : 0, i -> i <= 300 ? 1 : 0);
        everyCall(h -> h.again() ? 1 : 0, i -> 1);
        everyCall(TrackerHouse::pack, i -> 36);
        everyCall(h -> h.read(false), i -> 6);
        everyCall(h -> h.take() ? 1 : 0, i -> 0);
        everyCall(h -> h.mute(3, true) ? 1 : 0, i -> 1);
        everyCall(h -> Check.play(h, 64), i -> i == 1 ? 6 : 0);
        everyCall(h -> Check.play(h, 0), i -> Check.BAD_ARGUMENT);
        everyCall(h -> Check.cell(h, 0, 0), i -> Check.NO_CELL);
        everyCall(h -> h.end(1) ? 1 : 0, i -> 0);
        // reading, playing, packing and taking by turns
        run = new Run();
        for (int i = 0; i < 64; i++) {
            run.feed(0x6F726465, 0x72203520, 0x3B706172, 0x74203520, 0x3B202020);
            Check.due("read", run.read(false), 0);
            Check.due("pack", run.pack(), 37);
            Check.due("play", run.play(64), 6);
            Check.due("take", run.take(), true);
            Check.due("play", run.play(5), 5);
            Check.due("place", run.look(0), 0);
            Check.due("row", run.packed(36), 5);
        }
        Check.due("calls", run.calls(), Run.MOST_CALLS);
    }

    /** A house with one call after another, up to its last one. */
    private static void everyCall(ToLongFunction<TrackerHouse> call, IntToLongFunction due) {
        Run run = Run.of("order 0;");
        int i = 0;
        while (run.calls() < Run.MOST_CALLS) {
            i++;
            Check.due("call " + run.calls(), run.act(call), due.applyAsLong(i));
        }
    }
}
