/** Promises 5 to 9, 14 and 15: again, play, mute, look, voice, frame, event; ticks, rows, notes and frames. */
public final class PlayTest {
    public static void main(String[] args) {
        beginning();
        arguments();
        ticksAndRows();
        leaps();
        missingParts();
        notes();
        pitches();
        wholes();
        mixing();
        gatesAndSwells();
        loops();
        keptFrames();
        keptEvents();
        lastRefusal();
        lastRefusalInNotes();
        againAndMute();
        Check.finish();
    }

    private static void state(String what, TrackerHouse house, int place, int row, int tick, int over) {
        Check.due(what + ": place", house.look(0), place);
        Check.due(what + ": row", house.look(1), row);
        Check.due(what + ": tick", house.look(2), tick);
        Check.due(what + ": over", house.look(4), over);
    }

    /** INSTRUMENT, POSITION, STEP, VOLUME, AGE, ON, MUTED. */
    private static void voice(String what, TrackerHouse house, int v, int... due) {
        for (int i = 0; i < due.length; i++) {
            Check.due(what + ": voice " + v + " " + i, house.voice(v, i), due[i]);
        }
    }

    private static void beginning() {
        TrackerHouse house = Check.house("order 0 1 2; part 0;");
        state("new", house, 0, 0, 0, 0);
        int[] due = {0, 0, 0, 6, 0, 0, 0, 0, 0, 3};
        for (int what = 0; what < 10; what++) {
            Check.due("look " + what, house.look(what), due[what]);
        }
        Check.due("look 10", house.look(10), -1);
        Check.due("look -1", house.look(-1), -1);
        for (int v = 0; v < 4; v++) {
            voice("new", house, v, -1, 0, 0, 0, 0, 0, 0, -1);
        }
        voice("none", house, 4, -1, -1, -1, -1, -1, -1, -1);
        voice("none", house, -1, -1, -1, -1, -1, -1, -1, -1);
        Check.due("voice what -1", house.voice(0, -1), -1);
        Check.due("no frame", house.frame(0), 40000);
        Check.due("no frame", house.frame(-1), 40000);
        Check.due("no event", house.event(0), -1);
        Check.due("no event", house.event(-1), -1);
    }

    private static void arguments() {
        TrackerHouse house = Check.house("order 0; part 0;");
        for (int n : new int[] {0, -1, 65, Integer.MIN_VALUE, Integer.MAX_VALUE}) {
            Check.due("play " + n, Check.play(house, n), Check.BAD_ARGUMENT);
            Check.due("play without a module " + n, Check.play(new TrackerHouse(), n), Check.BAD_ARGUMENT);
        }
        state("nothing changed", house, 0, 0, 0, 0);
        Check.due("play 1", Check.play(house, 1), 1);
        Check.due("play 64", Check.play(house, 64), 5);
        Check.due("play over", Check.play(house, 64), 0);
        Check.due("play over, wrong", Check.play(house, 65), Check.BAD_ARGUMENT);
        Check.due("play without a module", Check.play(new TrackerHouse(), 64), Check.NO_ELEMENT);
    }

    private static void ticksAndRows() {
        TrackerHouse house = Check.house("order 3 1; part 3 . ; part 1 -1 -1 speed 2 . -1 -1 speed 0 . -1 -1 speed 99;");
        Check.due("play", Check.play(house, 5), 5);
        state("row 0", house, 0, 0, 5, 0);
        Check.due("frames", house.look(6), 20);
        Check.due("play", Check.play(house, 1), 1);
        state("row 1", house, 0, 1, 0, 0);
        Check.due("play", Check.play(house, 6), 6);
        state("place 1", house, 1, 0, 0, 0);
        Check.due("play", Check.play(house, 1), 1);
        state("place 1", house, 1, 0, 1, 0);
        Check.due("speed", house.look(3), 2);
        Check.due("play", Check.play(house, 1), 1);
        state("place 1", house, 1, 1, 0, 0);
        Check.due("play", Check.play(house, 1), 1);
        state("speed 1", house, 1, 2, 0, 0);
        Check.due("speed", house.look(3), 1);
        Check.due("play", Check.play(house, 11), 11);
        Check.due("speed", house.look(3), 12);
        state("speed 12", house, 1, 2, 11, 0);
        Check.due("play", Check.play(house, 64), 1);
        state("over", house, 2, 0, 0, 1);
        Check.due("no more", Check.play(house, 64), 0);
    }

    private static void leaps() {
        // the latest one counts, and row 0 of the place behind a jump
        TrackerHouse house = Check.house("order 0 1 2; part 0 -1 -1 jump 2, -1 -1 next 1 . . ; part 1 . . ; part 2 ;");
        Check.play(house, 6);
        state("next", house, 1, 1, 0, 0);
        house = Check.house("order 0 1 2; part 0 -1 -1 next 1, -1 -1 jump 2 . ; part 2 ;");
        Check.play(house, 6);
        state("jump", house, 2, 0, 0, 0);
        Check.play(house, 64);
        state("over", house, 3, 0, 0, 1);
        house = Check.house("order 0 0; part 0 -1 -1 next -9;");
        Check.play(house, 6);
        state("next below 0", house, 1, 0, 0, 0);
        house = Check.house("order 1 0; part 1 . ; part 0 . -1 -1 jump -9;");
        Check.play(house, 24);
        state("jump below 0", house, 0, 0, 0, 0);
        Check.play(house, 6);
        state("no leap stays behind its row", house, 0, 1, 0, 0);
        house = Check.house("order 0; part 0 -1 -1 jump 7 . ;");
        Check.due("ticks", Check.play(house, 64), 6);
        state("place 7", house, 7, 0, 0, 1);
        house = Check.house("order 0; part 0 -1 -1 next 7 . ;");
        Check.due("ticks", Check.play(house, 64), 6);
        state("next behind the last", house, 1, 7, 0, 1);
        // a row beyond the last one is one without notes, and the last one
        house = Check.house("order 0 1 2; part 0 -1 -1 next 999999999; part 1 -1 -1 jump 0; part 2 ;");
        Check.play(house, 6);
        state("row beyond", house, 1, 999999999, 0, 0);
        Check.play(house, 6);
        state("behind it", house, 2, 0, 0, 0);
        Check.due("no event", house.look(7), 0);
        // the largest row of all, which a container alone can tell
        byte[] container = Check.join(Check.row(84, 77), new byte[16],
            Check.row(1, 1, 1, 0, 10, 127, 255, 255, 255, 2, 0, 0), new byte[14], Check.row(3, 0, 1, 1));
        house = Check.house(container);
        Check.play(house, 6);
        state("largest row", house, 1, Integer.MAX_VALUE, 0, 0);
        Check.play(house, 6);
        state("behind it", house, 2, 0, 0, 0);
    }

    private static void missingParts() {
        TrackerHouse house = Check.house("order 0 5 5; part 0 -1 -1 next 3;");
        Check.due("ticks", Check.play(house, 64), 18);
        Check.due("events", house.look(7), 2);
        Check.due("event 0", house.event(0), 16 * 4 + 128 * 6);
        Check.due("event 1", house.event(1), 16 * 4 + 128 * 12);
        Check.due("event 2", house.event(2), -1);
        Check.due("no refusals", house.look(5), 0);
        Check.due("frames", house.look(6), 72);
        Check.due("silence", house.frame(71), 0);
    }

    private static void notes() {
        TrackerHouse house = Check.house("wave 0 byte 1 2 3 4; wave 1 byte 1 2 3 4; loop 0 0 4; loop 1 0 4; part 0 "
            + "48 0 none 0, -1 1 none 0, 48 -1 none 0, -2 1 vol 7"
            + ". -1 1 none 0, 48 -1 none 0, -1 -1 none 0, -1 -1 vol -3"
            + ". -2 -1 none 0, -1 0 none 0 . 0 -1 none 0; order 0;");
        Check.play(house, 1);
        voice("struck", house, 0, 0, 4 * 256 % 1024, 256, 64, 1, 1, 0);
        voice("instrument alone", house, 1, 1, 0, 0, 64, 0, 0, 0);
        voice("pitch alone", house, 2, -1, 0, 0, 0, 0, 0, 0);
        voice("off", house, 3, 1, 0, 0, 7, 0, 0, 0);
        Check.due("refusal", house.event(0), 1 + 16 * 2);
        Check.due("one", house.look(5), 1);
        Check.play(house, 6);
        voice("instrument goes on", house, 0, 1, 28 * 256 % 1024, 256, 64, 7, 1, 0);
        voice("struck", house, 1, 1, 0, 256, 64, 1, 1, 0);
        voice("vol below", house, 3, 1, 0, 0, 0, 0, 0, 0);
        Check.play(house, 6);
        voice("off", house, 0, 1, 0, 256, 64, 12, 0, 0);
        voice("other instrument", house, 1, 0, 0, 256, 64, 7, 1, 0);
        Check.play(house, 6);
        voice("struck anew", house, 0, 1, 64, 16, 64, 1, 1, 0);
        house = Check.house("wave 0 byte 1 2 3 4; part 0 -1 0 off 2 . 12 -1 none 0; order 0;");
        Check.play(house, 7);
        voice("from the first cell", house, 0, 0, 4 * 32, 32, 64, 1, 1, 0);
    }

    private static void pitches() {
        int[] r = {256, 271, 287, 304, 322, 342, 362, 384, 406, 431, 456, 483};
        for (int p = 0; p < 96; p++) {
            TrackerHouse house = Check.house("wave 0 byte 1; part 0 " + p + " 0 none 0; order 0;");
            Check.play(house, 1);
            Check.due("step of " + p, house.voice(0, 2), (r[p % 12] * (1L << p / 12)) / 16);
        }
    }

    private static void wholes() {
        whole("byte -128 127", -32768, 32512);
        whole("short -32768 32767", -32768, 32767);
        whole("char 0 65535", -32768, 32767);
        whole("int -1 65536", -1, 1);
        whole("int -65537 65535", -2, 0);
        whole("long -1 999999999", -1, 0);
        whole("float 128 -128", 16384, -16384);
        whole("float 256 -256", 32767, -32768);
        whole("float 999999999 -999999999", 32767, -32768);
        whole("double 255 -255", 32640, -32640);
        whole("double 999999999 -999999999", 32767, -32768);
        byte[] container = Check.join(Check.row(84, 77, 1, 4, 2), Check.big(Long.MAX_VALUE, 8), Check.big(-5L << 46, 8),
            new byte[15], Check.row(1, 1, 50, 1, 0, 0, 0, 0, 0), new byte[15], Check.row(1, 0));
        TrackerHouse house = Check.house(container);
        Check.play(house, 1);
        Check.due("long", house.frame(0), 32767);
        Check.due("long downwards", house.frame(1), -2);
        double[] reals = {0.99999, -0.99999, 1e-300, -0.0, 1.0000001, 0.00003, -0.00004, 0.5000001, -1000000};
        for (double real : reals) {
            int narrow = Math.max(-32768, Math.min(32767, (int) ((float) real * 32768f)));
            int wide = Math.max(-32768, Math.min(32767, (int) (real * 32768)));
            Check.due("float " + real, first(5, Check.big(Float.floatToIntBits((float) real), 4)), narrow);
            Check.due("double " + real, first(6, Check.big(Double.doubleToLongBits(real), 8)), wide);
        }
    }

    private static int first(int kind, byte[] cell) {
        TrackerHouse house = Check.house(Check.join(Check.row(84, 77, 1, kind, 1), cell, new byte[15],
            Check.row(1, 1, 50, 1, 0, 0, 0, 0, 0), new byte[15], Check.row(1, 0)));
        Check.play(house, 1);
        return house.frame(0);
    }

    private static void whole(String wave, int first, int second) {
        TrackerHouse house = Check.house("wave 0 " + wave + "; part 0 48 0 none 0; order 0;");
        Check.play(house, 1);
        Check.due(wave, house.frame(0), first);
        Check.due(wave, house.frame(1), second);
        Check.due(wave + ": beyond", house.frame(2), 0);
        Check.due(wave + ": frames", house.frame(4), 40000);
        Check.due(wave + ": event", house.event(0), 3);
        voice(wave, house, 0, 0, 512, 256, 64, 0, 0, 0);
    }

    private static void mixing() {
        String text = "wave 0 short 30000 -30000 -7; loop 0 0 3; part 0 48 0 none 0, 48 0 none 0, 48 0 vol 1, 48 0 vol 0;"
            + "order 0;";
        TrackerHouse house = Check.house(text);
        Check.play(house, 1);
        Check.due("beyond", house.frame(0), 32767);
        Check.due("beyond", house.frame(1), -32768);
        // -7 / 64 is cut towards 0
        Check.due("sum", house.frame(2), -14);
        house = Check.house(text);
        Check.due("mute", house.mute(0, true), true);
        Check.due("mute", house.mute(3, true), true);
        Check.due("mute", house.mute(3, false), true);
        Check.due("mute none", house.mute(4, true), false);
        Check.due("mute none", house.mute(-1, true), false);
        Check.play(house, 1);
        Check.due("muted", house.frame(0), 30000 + 468);
        Check.due("muted", house.frame(1), -30000 - 468);
        voice("goes on", house, 0, 0, 256, 256, 64, 1, 1, 1);
        voice("is not", house, 1, 0, 256, 256, 64, 1, 1, 0);
        // a muted voice is refused as others are
        house = Check.house("part 0 48 0 none 0; order 0;");
        house.mute(0, true);
        Check.play(house, 1);
        Check.due("refused", house.event(0), 2);
        voice("off", house, 0, 0, 0, 256, 64, 0, 0, 1);
        Check.due("silence", house.frame(0), 0);
    }

    private static void gatesAndSwells() {
        TrackerHouse house = Check.house("wave 0 short 1001; loop 0 0 1; gate 0 1 0 1; part 0 48 0 none 0; order 0;");
        Check.play(house, 6);
        int[] gated = {1001, 0, 1001, 1001, 0, 1001};
        for (int t = 0; t < 6; t++) {
            Check.due("gate at " + t, house.frame(4 * t), gated[t]);
            Check.due("gate at " + t, house.frame(4 * t + 3), gated[t]);
        }
        house = Check.house("wave 0 short 1001; loop 0 0 1; gate 0 0; part 0 48 0 none 0; order 0;");
        Check.play(house, 1);
        Check.due("gate of one", house.frame(0), 0);
        house = Check.house("wave 0 short -1001; loop 0 0 1; swell 0 64 32 0 1; part 0 48 0 none 0; order 0;");
        Check.play(house, 6);
        int[] swelled = {-1001, -500, 0, -15, -15, -15};
        for (int t = 0; t < 6; t++) {
            Check.due("swell at " + t, house.frame(4 * t), swelled[t]);
        }
        house = Check.house("wave 0 short 1001; loop 0 0 1; gate 0 0 1; swell 0 64 32; part 0 48 0 vol 32; order 0;");
        Check.play(house, 2);
        Check.due("shut", house.frame(0), 0);
        Check.due("all", house.frame(4), 250);
        // a product that its 4 bytes round up: 32767 times the real just below 1
        byte[] container = Check.join(Check.row(84, 77, 5, 1, 1, 0x7F, 0xFF, 1),
            Check.big(Float.floatToIntBits(Math.nextDown(1f)), 4), new byte[15],
            Check.row(1, 1, 50, 1, 0, 0, 0, 0, 0), new byte[15], Check.row(1, 0));
        house = Check.house(container);
        Check.play(house, 1);
        Check.due("rounded", house.frame(0), (int) (32767f * Math.nextDown(1f)));
    }

    private static void loops() {
        TrackerHouse house = Check.house("wave 0 byte 1 2 3 4 5; loop 0 2 4; part 0 48 0 none 0; order 0;");
        Check.play(house, 2);
        int[] cells = {1, 2, 3, 4, 3, 4, 3, 4};
        for (int f = 0; f < 8; f++) {
            Check.due("loop " + f, house.frame(f), 256 * cells[f]);
        }
        // a step of many loops' length: 3864 of 256ths, from cell 0 of one that is a cell long
        house = Check.house("wave 0 byte 1 2; loop 0 0 1; part 0 95 0 none 0; order 0;");
        Check.play(house, 1);
        voice("one cell", house, 0, 0, 4 * 3864 % 256, 3864, 64, 1, 1, 0);
        // a loop that begins beyond the wave does not keep it
        house = Check.house("wave 0 byte 1 2; loop 0 3 4; part 0 48 0 none 0; order 0;");
        Check.play(house, 1);
        Check.due("beyond", house.event(0), 3);
        // a position beyond the loop's end is played, then comes back
        house = Check.house("wave 0 byte 1 2 3 4 5 6 7 8; loop 0 1 3; part 0 48 0 off 6; order 0;");
        Check.play(house, 1);
        int[] back = {7, 2, 3, 2};
        for (int f = 0; f < 4; f++) {
            Check.due("back " + f, house.frame(f), 256 * back[f]);
        }
    }

    private static void keptFrames() {
        TrackerHouse house = Check.house("wave 0 int -1; part 0 0 0 speed 12; part 1;"
            + "order 0 1 1 1 1 1 1 1 1 1 1 1 1 1;");
        Check.play(house, 64);
        Check.due("frames", house.look(6), 256);
        Check.due("first", house.frame(0), -1);
        Check.play(house, 1);
        Check.due("frames", house.look(6), 260);
        Check.due("not kept", house.frame(3), 40000);
        Check.due("kept", house.frame(4), -1);
        Check.due("latest", house.frame(259), 0);
        Check.due("none", house.frame(260), 40000);
        Check.due("none", house.frame(Integer.MAX_VALUE), 40000);
        Check.due("none", house.frame(Integer.MIN_VALUE), 40000);
    }

    private static final String REFUSING =
        "part 0 0 -1 speed 1, 0 -1 none 0, 0 -1 none 0, 0 -1 set 0; order " + Check.repeat("0 ", 32) + ";";

    private static void keptEvents() {
        TrackerHouse house = Check.house(REFUSING);
        Check.due("play", Check.play(house, 64), 32);
        Check.due("refusals", house.look(5), 160);
        Check.due("events", house.look(7), 160);
        int[] voices = {0, 1, 2, 3, 3};
        for (int k = 0; k < 100; k++) {
            Check.due("event " + k, house.event(k), 1 + 16 * voices[k % 5] + 128 * (k / 5));
        }
        Check.due("not kept", house.event(100), -1);
        Check.due("none", house.event(160), -1);
    }

    private static void lastRefusal() {
        TrackerHouse house = Check.house(REFUSING);
        for (int i = 0; i < 6; i++) {
            Check.due("play", Check.play(house, 64), 32);
            Check.due("again", house.again(), true);
            Check.due("events", house.look(7), 0);
        }
        Check.due("refusals", house.look(5), 960);
        Check.due("play", Check.play(house, 64), 9);
        state("over", house, 8, 0, 0, 1);
        Check.due("refusals", house.look(5), 1000);
        Check.due("events", house.look(7), 40);
        Check.due("frames", house.look(6), 32);
        Check.due("no more", Check.play(house, 64), 0);
        // the count is the house's, not the module's: a refusal in a frame ends the tick within it
        Check.due("read", Check.read(house, "wave 0 byte 9 8; part 0 48 0 none 0, 24 0 none 0; order 1 0;"), 0);
        Check.due("refusals", house.look(5), 1000);
        Check.due("play", Check.play(house, 64), 7);
        state("over", house, 1, 0, 0, 1);
        Check.due("missing part is told", house.look(7), 1);
        Check.due("missing part is told", house.event(0), 64);
        Check.due("frames", house.look(6), 26);
        Check.due("frame", house.frame(25), 256 * 17);
        Check.due("no frame", house.frame(26), 40000);
        voice("where it ends", house, 0, 0, 512, 256, 64, 0, 1, 0);
        voice("not come to", house, 1, 0, 128, 64, 64, 0, 1, 0);
        Check.due("again", house.again(), true);
        state("again", house, 0, 0, 0, 0);
        Check.due("play", Check.play(house, 64), 7);
    }

    /** A refusal that ends the song keeps the NOTE's EFFECT and the later voices away. */
    private static void lastRefusalInNotes() {
        TrackerHouse house = Check.house(REFUSING);
        for (int i = 0; i < 7; i++) {
            Check.play(house, 64);
            house.again();
        }
        Check.due("refusals", house.look(5), 1000);
        Check.due("read", Check.read(house, "wave 0 byte 9; part 0 5 0 none 0, 5 -1 speed 3, 5 0 none 0; order 0;"), 0);
        Check.due("play", Check.play(house, 3), 1);
        Check.due("speed", house.look(3), 6);
        Check.due("frames", house.look(6), 0);
        voice("came", house, 0, 0, 0, 21, 64, 0, 1, 0);
        voice("came not", house, 2, -1, 0, 0, 0, 0, 0, 0);
        state("over", house, 0, 0, 0, 1);
    }

    private static void againAndMute() {
        TrackerHouse house = new TrackerHouse();
        Check.due("mute without a module", house.mute(1, true), true);
        Check.due("again without a module", house.again(), false);
        Check.due("read", Check.read(house, "wave 0 byte 9; gate 0 1; swell 0 5; loop 0 0 1;"
            + "part 0 5 0 set 4, 5 0 shut 0, 5 0 swell 9, 5 0 speed 3 . -1 -1 next 0; order 0 1;"), 0);
        voice("muted stays", house, 1, -1, 0, 0, 0, 0, 0, 1);
        Check.play(house, 4);
        state("on its way", house, 0, 1, 1, 0);
        Check.due("again", house.again(), true);
        state("again", house, 0, 0, 0, 0);
        Check.due("speed", house.look(3), 6);
        Check.due("frames", house.look(6), 0);
        Check.due("no frame", house.frame(0), 40000);
        Check.due("events", house.look(7), 0);
        voice("again", house, 0, -1, 0, 0, 0, 0, 0, 0);
        voice("muted stays", house, 1, -1, 0, 0, 0, 0, 0, 1);
        Check.due("cells stay", Check.cell(house, 0, 0), 4);
        Check.due("truths stay", house.gate(0, 0), 0);
        Check.due("reals stay", house.swell(0, 0), Float.floatToIntBits(14 / 64f));
        Check.play(house, 3);
        state("no leap stays", house, 0, 1, 0, 0);
        Check.due("take", house.pack() > 0 && house.take(), true);
        voice("muted stays", house, 1, -1, 0, 0, 0, 0, 0, 1);
    }
}
