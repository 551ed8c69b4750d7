/** Bounds of playing: the beginning, ticks, rows, places, notes, frames, and the refusal that ends a song. */
final class PlayBounds {
    private PlayBounds() {
    }

    static void test() {
        Document.leaves("==== 2. PLAYING.");
        Document.leaves("A VOICE has an INSTRUMENT (or none), a POSITION (in 256ths of a cell), a STEP, a VOLUME, an AGE"
            + " (ticks); it is ON or not, and MUTED or not.");
        beginning();
        noteThenEffect();
        otherTicks();
        frames();
        agesAndSpeed();
        whatComes();
        missingParts();
        lastPlace();
        rowsBeyond();
        instrumentOfNote();
        pitches();
        pitchRefused();
        pitchOff();
        sums();
        cellsBeyond();
        volumes();
        gates();
        swells();
        loops();
        wholes();
        refused();
        LastRefusal.test();
    }

    private static String song(String items, String rows) {
        return items + " part 0 " + rows + "; order 0;";
    }

    private static void beginning() {
        Document.says("At the beginning none has an INSTRUMENT, all numbers are 0, none is ON; SPEED is 6; place 0 of the"
            + " ORDER, row 0, tick 0; no events, frames. (MUTED stays.)");
        String text = "wave 0 byte 1 2; loop 0 0 2; order 0 1 0; part 0 50 0 speed 2, 50 0 off 1, 50 0 up 9, 50 -1 vol 9 ."
            + " -1 -1 next 0;";
        atBeginning("read", Run.of(text), 0);
        for (int way = 0; way < 4; way++) {
            Run run = Run.of(text);
            run.mute(2, true);
            run.pack();
            run.play(5);
            run.at("on its way", 1, 0, 1, 0);
            Check.due("a refusal and a missing part", run.look(7), 2);
            if (way == 0) {
                Check.due("again", run.again(), true);
            } else if (way == 1) {
                Check.due("take", run.take(), true);
            } else {
                run.feed(way == 2 ? Check.bytes(text) : Box.instrument(Check.row(1, 0, 1, 0)));
                Check.due("read", run.read(way == 3), 0);
            }
            Check.due("refusals stay", run.look(5), 1);
            atBeginning("way " + way, run, 1);
            Check.due("muted", run.voice(2, 6), 1);
        }
        Run run = Run.of(text);
        run.mute(2, true);
        Check.due("a fault", run.read(false), 6);
        run.feed(Check.bytes(text));
        run.read(false);
        Check.due("muted behind a fault", run.voice(2, 6), 1);
    }

    private static void atBeginning(String what, Run run, int muted) {
        for (int v = 0; v < 4; v++) {
            run.voiceIs(what, v, -1, 0, 0, 0, 0, 0, v == 2 ? muted : 0);
        }
        run.at(what, 0, 0, 0, 0);
        Check.due(what + ": speed", run.look(3), 6);
        Check.due(what + ": frames", run.look(6), 0);
        Check.due(what + ": frame", run.frame(0), 40000);
        run.eventsAre(what);
    }

    private static void noteThenEffect() {
        Document.says("A TICK: at tick 0 of a row its NOTES come, voice by voice: the NOTE, then its EFFECT (section 3),"
            + " ahead of the next voice;");
        Run run = Run.played(song("wave 0 byte 5; ", "0 0 off 3, -1 0 set 10, -1 0 mul 3, -1 0 add 4"), 1);
        run.voiceIs("the note ahead of its effect", 0, 0, 768);
        run.cellsAre("voice by voice", 0, 34);
        run = Run.played(song("wave 0 byte 5; ", "-1 0 lose 0, -1 0 set 1, -1 1 lend 0"), 1);
        run.eventsAre("an effect ahead of the next note", 2 + 16);
        run = Run.played(song("wave 0 byte 5; wave 1 byte 6;", "-1 0 lend 1, -1 0 set 9, -1 1 bump 0, -1 1 copy 0"), 1);
        run.cellsAre("an effect ahead of the next note", 1, 10);
        run = Run.played(song("wave 0 byte 5; ", "-1 -1 vol 3, 0 0 vol 4, 0 0 vol 5, 0 0 vol 6"), 1);
        for (int v = 0; v < 4; v++) {
            Check.due("each has its own effect", run.voice(v, 3), v + 3);
        }
    }

    private static void otherTicks() {
        Document.says("at others the voices' EFFECTS that go on, likewise.");
        Run run = Run.of(song("wave 0 short 5 5 5; loop 0 0 3; gate 0 0; swell 0 0;",
            "48 0 bump 0, -1 0 slide -1, -1 0 slide -2, -1 0 turn 0 . 48 0 slide -3"));
        int[][] volumes = {{64, 64}, {63, 62}, {62, 60}, {61, 58}, {60, 56}, {59, 54}, {59, 54}};
        for (int t = 0; t < 7; t++) {
            run.play(1);
            Check.due("bump comes once", run.cell(0, 0), 6);
            Check.due("turn comes once", run.gate(0, 0), 1);
            Check.due("slide goes on", run.voice(1, 3), volumes[t][0]);
            Check.due("slide goes on", run.voice(2, 3), volumes[t][1]);
            Check.due("a note comes at tick 0 alone", run.voice(0, 4), t < 6 ? t + 1 : 1);
        }
        run.play(1);
        Check.due("the next row's effect", run.voice(0, 3), 61);
        Check.due("the last row's effect is over", run.voice(1, 3), 59);
    }

    private static void frames() {
        Document.says("Then 4 FRAMES.");
        Run run = Run.of(song("wave 0 byte 1 2 3 4 5 6 7 8;", "48 0 none 0"));
        Check.due("no tick", run.look(6), 0);
        for (int t = 1; t <= 6; t++) {
            run.play(1);
            Check.due("frames of " + t, run.look(6), 4 * t);
            Check.due("no frame more", run.frame(4 * t), 40000);
        }
        run.framesAre("cell by cell", 0, 256, 512, 768, 1024, 1280, 1536, 1792, 2048, 0);
        run.play(1);
        Check.due("none when it is over", run.look(6), 24);
    }

    private static void agesAndSpeed() {
        Document.says("Then the AGE of each voice that is ON is 1 more, and the tick; behind as many as SPEED tells (as it is"
            + " then) the row is over:");
        Run run = Run.of(song("wave 0 byte 1; loop 0 0 1; wave 1 byte 1;", "0 0 none 0, -1 0 none 0, 48 1 none 0, 0 1 none 0"));
        for (int t = 1; t <= 5; t++) {
            run.play(1);
            Check.due("tick", run.look(2), t);
            Check.due("age of one that is on", run.voice(0, 4), t);
            Check.due("age of one that never was", run.voice(1, 4), 0);
            Check.due("age of one that went off in the tick", run.voice(2, 4), 0);
            Check.due("age of one that goes off in tick 4", run.voice(3, 4), Math.min(t, 4));
        }
        for (int a = 1; a <= 12; a++) {
            run = Run.of("part 0 . -1 -1 speed " + a + " . ; order 0;");
            run.play(6);
            run.at("speed 6", 0, 1, 0, 0);
            for (int t = 1; t < a; t++) {
                run.play(1);
                run.at("speed " + a, 0, 1, t, 0);
            }
            run.play(1);
            run.at("the row is over", 0, 2, 0, 0);
            Check.due("speed stays", run.play(64), a);
            run.at("the song is over", 1, 0, 0, 1);
        }
        run = Run.of("part 0 -1 -1 speed 3, -1 -1 speed 2, -1 -1 speed 5, -1 -1 speed 4 . ; order 0;");
        run.play(3);
        run.at("the latest speed", 0, 0, 3, 0);
        run.play(1);
        run.at("the latest speed", 0, 1, 0, 0);
    }

    private static void whatComes() {
        Document.says("what comes is the place and row that jump or next told in it (the latest one), else the next row, or"
            + " row 0 of the next place behind the last one;");
        String parts = "order 0 1 2; part 1 . . ; part 2 . . ; part 0 ";
        comes(parts + "-1 -1 jump 2, -1 -1 next 1 . ;", 1, 1);
        comes(parts + "-1 -1 next 1, -1 -1 jump 2 . ;", 2, 0);
        comes(parts + "-1 -1 next 1, -1 -1 none 0, -1 -1 next 2, -1 -1 speed 6;", 1, 2);
        comes(parts + "-1 -1 jump 2, -1 -1 none 0, -1 -1 none 0, -1 -1 jump 0 . ;", 0, 0);
        comes(parts + " . ;", 0, 1);
        comes(parts + ";", 1, 0);
        Run run = Run.of("order 1 0; part 1 . . ; part 0 . -1 -1 jump 0 ;");
        run.play(18);
        run.at("row 0 of the next place behind the last row", 1, 0, 0, 0);
        run.play(12);
        run.at("a jump back", 0, 0, 0, 0);
        run.play(6);
        run.at("what was told is over with its row", 0, 1, 0, 0);
    }

    private static void comes(String text, int place, int row) {
        Run run = Run.played(text, 5);
        run.at(text, 0, 0, 5, 0);
        run.play(1);
        run.at(text, place, row, 0, 0);
    }

    private static void missingParts() {
        Document.says("a PART that is not there (MISSING PART, told at tick 0, no voice) has one row without NOTES.");
        Run run = Run.of("wave 0 byte 1; loop 0 0 1; order 0 3 15 0 3; part 0 48 0 speed 2;");
        run.play(2);
        run.eventsAre("a part that is there");
        run.play(1);
        run.at("the missing one", 1, 0, 1, 0);
        run.eventsAre("told at tick 0", 64 + 128 * 2);
        run.play(1);
        run.at("it has one row", 2, 0, 0, 0);
        run.eventsAre("not at tick 1", 64 + 128 * 2);
        Check.due("voices go on", run.voice(0, 4), 4);
        Check.due("and sound", run.frame(15), 256);
        Check.due("to the end", run.play(64), 6);
        run.eventsAre("each time", 64 + 128 * 2, 64 + 128 * 4, 64 + 128 * 8);
        Check.due("it is no refusal", run.look(5), 0);
        // a row beyond the one that it has
        run = Run.of("order 0 9 0; part 0 -1 -1 next 5;");
        run.play(7);
        run.at("a row beyond", 1, 5, 1, 0);
        run.eventsAre("a row beyond", 64 + 128 * 6);
        run.play(5);
        run.at("behind it", 2, 0, 0, 0);
        // what an earlier module had is not there
        run = Run.of("order 0; part 0; part 1;");
        run.feed(Check.bytes("order 1;"));
        run.read(false);
        run.play(1);
        run.eventsAre("an earlier module's part", 64);
    }

    private static void lastPlace() {
        Document.says("Behind the last place, or at one that is not there, the song is OVER.");
        for (int size : new int[] {1, 2, 32}) {
            String order = "order " + Texts.times("0 ", size) + "; part 0 -1 -1 speed 1";
            Run run = Run.played(order + ";", size);
            run.at("behind the last of " + size, size, 0, 0, 1);
            run.changesNothing("play(1) of one that is over", h -> Check.play(h, 1), 0);
            run = Run.played(order + ";", Math.max(1, size - 1));
            Check.due("the last place", run.look(4), size == 1 ? 1 : 0);
            run = Run.played(order + ", -1 -1 jump " + (size - 1) + " . ;", 1);
            run.at("at the last place", size - 1, 0, 0, 0);
            Check.due("it goes on", run.play(64), 64);
            run = Run.played(order + ", -1 -1 jump " + size + " . ;", 1);
            run.at("at one that is not there", size, 0, 0, 1);
            run.changesNothing("play(64) of one that is over", h -> Check.play(h, 64), 0);
            run = Run.played(order + ", -1 -1 next 0 . ;", size);
            run.at("next of the last place", size, 0, 0, 1);
        }
        Run run = Run.played(Box.part(Box.rows(Box.note(-1, -1, 9, Integer.MAX_VALUE))), 6);
        run.at("the largest place", Integer.MAX_VALUE, 0, 0, 1);
        run.changesNothing("play(64) of one that is over", h -> Check.play(h, 64), 0);
        Check.due("again", run.again(), true);
        run.at("again", 0, 0, 0, 0);
    }

    private static void rowsBeyond() {
        Document.says("A row beyond a PART's last one is without NOTES, and the last one.");
        String parts = "order 0 1 0; wave 0 byte 9; part 1 " + Texts.times(". ", 30) + ". -1 3 vol 5; part 0 -1 -1 next ";
        Run run = Run.played(parts + "31;", 7);
        run.at("the last row", 1, 31, 1, 0);
        run.voiceIs("its note came", 0, 3, 0, 0, 5);
        run.play(5);
        run.at("behind it", 2, 0, 0, 0);
        for (int row : new int[] {32, 33, 999999999}) {
            run = Run.played(parts + row + ";", 7);
            run.at("a row beyond", 1, row, 1, 0);
            run.voiceIs("no note came", 0, -1, 0, 0, 0);
            run.eventsAre("the part is there");
            run.play(5);
            run.at("behind it", 2, 0, 0, 0);
        }
        byte[] container = Check.join(Box.HEAD, new byte[16], Box.rows(Box.note(-1, -1, 10, Integer.MAX_VALUE)),
            Box.rows(Box.note(-1, 1, 0, 0)), new byte[14], Check.row(3, 0, 1, 1));
        run = Run.played(container, 7);
        run.at("the largest row", 1, Integer.MAX_VALUE, 1, 0);
        Check.due("no note came", run.voice(0, 0), -1);
        run.play(6);
        run.at("behind it", 2, 0, 1, 0);
        Check.due("a note came", run.voice(0, 0), 1);
    }

    private static void instrumentOfNote() {
        Document.says("A NOTE: an INSTRUMENT becomes the voice's, with VOLUME 64.");
        Run run = Run.played(song("", "-1 0 vol 3 . -1 -1 none 0 . -1 15 none 0 . -1 15 vol 7 . -1 15 slide 0"), 1);
        run.voiceIs("instrument 0", 0, 0, 0, 0, 3, 0, 0);
        run.play(6);
        run.voiceIs("none", 0, 0, 0, 0, 3, 0, 0);
        run.play(6);
        run.voiceIs("instrument 15", 0, 15, 0, 0, 64, 0, 0);
        run.play(12);
        run.voiceIs("the same once more", 0, 15, 0, 0, 64, 0, 0);
        run = Run.played(song("wave 0 byte 1; loop 0 0 1; wave 1 byte 2; loop 1 0 1;", "24 0 vol 3 . -1 1 none 0"), 7);
        run.voiceIs("the voice goes on", 0, 1, 28 * 64 % 256, 64, 64, 7, 1);
        Check.due("with the other wave", run.frame(24), 512);
    }

    private static void pitches() {
        Document.says("A PITCH p 0 .. 95: with an INSTRUMENT (now) it is ON, POSITION 0, AGE 0, STEP is R * 2^O / 16 (cut), O"
            + " being p / 12, R by p modulo 12: 256 271 287 304 322 342 362 384 406 431 456 483;");
        int[] r = {256, 271, 287, 304, 322, 342, 362, 384, 406, 431, 456, 483};
        for (int p = 0; p < 96; p++) {
            Run run = Run.played(song("wave 0 byte 1; loop 0 0 1;", "-1 0 off 0 . " + p + " -1 speed 1 . -1 -1 speed 2"), 7);
            int step = r[p % 12] * (1 << p / 12) / 16;
            run.voiceIs("pitch " + p, 0, 0, 4 * step % 256, step, 64, 1, 1);
        }
        Run run = Run.played(song("wave 0 byte 1;", "0 0 none 0, 11 0 none 0, 12 0 none 0, 95 0 none 0"), 1);
        Check.due("the least step", run.voice(0, 2), 16);
        Check.due("cut", run.voice(1, 2), 30);
        Check.due("the next octave", run.voice(2, 2), 32);
        Check.due("the largest step", run.voice(3, 2), 3864);
        run = Run.played(song("wave 0 byte 1 1 1 1 1 1 1 1;", "24 0 none 0 . 12 -1 vol 9 . 24 0 speed 1 . 24 -1 speed 2"), 6);
        run.voiceIs("before", 0, 0, 24 * 64, 64, 64, 6, 1);
        run.play(1);
        run.voiceIs("anew", 0, 0, 4 * 32, 32, 9, 1, 1);
        run.play(6);
        run.voiceIs("anew with the same instrument", 0, 0, 4 * 64, 64, 64, 1, 1);
        run = Run.played(song("wave 0 byte 1;", "48 0 none 0 . 12 -1 none 0"), 6);
        run.voiceIs("off", 0, 0, 256, 256, 64, 0, 0);
        run.play(1);
        run.voiceIs("on again", 0, 0, 128, 32, 64, 1, 1);
    }

    private static void pitchRefused() {
        Document.says("without one REFUSED (1).");
        for (int p : new int[] {0, 95}) {
            String before = "-1 -1 off 2, -1 -1 off 2, -1 -1 off 2, -1 -1 off 2 . ";
            Run run = Run.played(song("wave 0 byte 1;", before + "-1 -1 vol 7, " + p + " -1 vol 5, -1 0 none 0, -1 -1 vol 3"), 7);
            run.eventsAre("a pitch without an instrument", 1 + 16 + 128 * 6);
            Check.due("a refusal", run.look(5), 1);
            run.voiceIs("its effect comes all the same", 1, -1, 512, 0, 5, 0, 0);
            run.voiceIs("the next voice", 2, 0, 512, 0, 64, 0, 0);
            Run none = Run.played(song("wave 0 byte 1;", before + "-1 -1 vol 7, -1 -1 vol 5, -1 0 none 0, -1 -1 vol 3"), 7);
            run.sameAs("nothing else is done", none, PlayBounds::eventsOrPacked);
        }
        Run run = Run.played(song("", "0 0 none 0, -1 -1 none 0, 0 1 none 0"), 1);
        run.eventsAre("with one, and without a pitch", 2, 2 + 32);
    }

    static boolean eventsOrPacked(String name) {
        return Run.tellsEvents(name) || name.contains("look 5") || name.contains("look 7") || name.contains("packed");
    }

    private static void pitchOff() {
        Document.says("PITCH -2: it is OFF.");
        String wave = "wave 0 byte 1 2 3 4 5 6 7 8 9; loop 0 0 9;";
        Run run = Run.played(song(wave, "24 0 none 0 . -2 -1 none 0 . -2 0 vol 5 . 24 -1 none 0"), 6);
        run.voiceIs("on", 0, 0, 24 * 64, 64, 64, 6, 1);
        run.play(1);
        run.voiceIs("off, and all else stays", 0, 0, 24 * 64, 64, 64, 6, 0);
        run.framesAre("silence", 24, 0, 0, 0, 0, 40000);
        run.play(6);
        run.voiceIs("off once more", 0, 0, 24 * 64, 64, 5, 6, 0);
        run.eventsAre("no refusal");
        run = Run.played(song(wave, "-2 -1 none 0"), 1);
        run.voiceIs("without an instrument", 0, -1, 0, 0, 0, 0, 0);
        run.eventsAre("no refusal");
        run = Run.played(song(wave, "24 0 none 0 . -1 -1 none 0"), 7);
        run.voiceIs("PITCH -1 leaves it on", 0, 0, 28 * 64, 64, 64, 7, 1);
    }

    private static void sums() {
        Document.says("A FRAME: for each voice that is ON, one by one: its AMOUNT; the sum of those that are not MUTED, from"
            + " -32768 to 32767 (beyond: the end), is the FRAME.");
        sum(32767, 32766, 1, 0, 0);
        sum(32767, 32767, 1, 0, 0);
        sum(32767, 32767, 0, 0, 0);
        sum(32767, 32767, 32767, 32767, 32767);
        sum(-32768, -32767, -1, 0, 0);
        sum(-32768, -32768, -1, 0, 0);
        sum(-32768, -32768, -32768, -32768, -32768);
        sum(32766, 32767, 0, -1, 0);
        sum(-32767, -32768, 1, 0, 0);
        // the sum goes beyond and comes back: only what is at the end counts
        sum(-2, 32767, 32767, -32768, -32768);
        sum(-2, -32768, -32768, 32767, 32767);
        sum(10, 1, 2, 3, 4);
        for (int muted = 0; muted < 16; muted++) {
            Run run = Run.of(four(1, 20, 300, 4000));
            int due = 0;
            for (int v = 0; v < 4; v++) {
                boolean on = (muted >> v & 1) == 1;
                run.mute(v, on);
                due += on ? 0 : new int[] {1, 20, 300, 4000}[v];
            }
            run.play(1);
            run.framesAre("muted " + muted, 0, due, due, due, due, 40000);
            for (int v = 0; v < 4; v++) {
                run.voiceIs("a muted one goes on", v, v, 64, 16, 64, 1, 1, muted >> v & 1);
            }
        }
        Run run = Run.of(song("", "0 0 none 0, 0 0 none 0"));
        run.mute(0, true);
        run.play(1);
        run.eventsAre("a muted one is refused as others are", 2, 2 + 16);
        run.framesAre("nobody is on", 0, 0, 0, 0, 0);
    }

    private static String four(int a, int b, int c, int d) {
        return song("wave 0 short " + a + "; wave 1 short " + b + "; wave 2 short " + c + "; wave 3 short " + d + ";",
            "0 0 none 0, 0 1 none 0, 0 2 none 0, 0 3 none 0");
    }

    private static void sum(int due, int a, int b, int c, int d) {
        Run.played(four(a, b, c, d), 1).framesAre(a + " + " + b + " + " + c + " + " + d, 0, due, due, due, due);
    }

    private static void cellsBeyond() {
        Document.says("AMOUNT: the WAVE's cell POSITION / 256: REFUSED (2) without a WAVE, (3) beyond: the voice is OFF,"
            + " AMOUNT 0.");
        // 16 frames a cell, and the 17th beyond it
        Run run = Run.played(song("wave 0 byte 1; wave 1 byte 2; loop 1 0 1;", "0 0 none 0, 0 1 none 0"), 4);
        run.voiceIs("behind 16 frames", 0, 0, 256, 16, 64, 4, 1);
        run.framesAre("the last 256th", 15, 768);
        run.play(1);
        run.voiceIs("beyond", 0, 0, 256, 16, 64, 4, 0);
        run.framesAre("the other one goes on", 16, 512, 512, 512, 512, 40000);
        run.eventsAre("once", 3 + 128 * 4);
        run.play(1);
        run.eventsAre("no more when it is off", 3 + 128 * 4);
        for (int size : new int[] {1, 64}) {
            String wave = "wave 0 short " + Texts.numbers(size) + "; part 0 ";
            run = Run.played(wave + "0 0 off " + (size - 1) + "; order 0;", 1);
            run.framesAre("the last cell", 0, size, size, size, size);
            run.eventsAre("the last cell");
            run = Run.played(wave + "0 0 off " + size + "; order 0;", 1);
            run.framesAre("beyond", 0, 0, 0, 0, 0);
            run.eventsAre("beyond", 3);
            run.voiceIs("beyond", 0, 0, 256 * size, 16, 64, 0, 0);
        }
        run = Run.played(song("wave 0 byte 1;", "0 0 off 1000"), 1);
        run.eventsAre("far beyond", 3);
        run = Run.played(song("wave 0 byte 1; gate 1 1; swell 1 1; loop 1 0 1;", "0 0 none 0, 0 1 none 0, 0 1 off 1000"), 1);
        run.eventsAre("no wave", 2 + 16, 2 + 32);
        run.voiceIs("no wave", 1, 1, 0, 16, 64, 0, 0);
        run.framesAre("amount 0", 0, 256, 256, 256, 256);
        // a WAVE that is shorter than the LOOP's end, or lent and shorter
        run = Run.played(song("wave 0 byte 1 2; loop 0 0 3;", "48 0 none 0"), 1);
        run.framesAre("a loop beyond the wave", 0, 256, 512, 0, 0);
        run.eventsAre("a loop beyond the wave", 3);
    }

    private static void volumes() {
        Document.says("Else the cell's WHOLE times VOLUME / 64 (towards 0);");
        int[] cells = {32767, -32768, 1, -1, 63, -63, 64, -64, 65, -65, 0};
        for (int cell : cells) {
            for (int volume : new int[] {0, 1, 32, 63, 64}) {
                Run run = Run.played(song("wave 0 short " + cell + ";", "0 0 vol " + volume), 1);
                Check.due(cell + " at volume " + volume, run.frame(0), cell * volume / 64);
            }
        }
        Check.due("towards 0", Run.played(song("wave 0 short -1;", "0 0 vol 63"), 1).frame(0), 0);
        Check.due("towards 0", Run.played(song("wave 0 short -127;", "0 0 vol 1"), 1).frame(0), -1);
        Check.due("towards 0", Run.played(song("wave 0 short -128;", "0 0 vol 1"), 1).frame(0), -2);
    }

    private static void gates() {
        Document.says("with a GATE: 0, if truth AGE modulo its size is not;");
        for (int size : new int[] {1, 2, 3, 31, 32}) {
            for (int open : new int[] {0, size - 1}) {
                StringBuilder gate = new StringBuilder("gate 0 ");
                for (int i = 0; i < size; i++) {
                    gate.append(i == open ? "1 " : "0 ");
                }
                Run run = Run.played(song("wave 0 short 99; loop 0 0 1; " + gate + ";",
                    "0 0 speed 12 . . . . . "), 64);
                for (int age = 0; age < 64; age++) {
                    int due = age % size == open ? 99 : 0;
                    Check.due("gate of " + size + " at age " + age, run.frame(4 * age), due);
                    Check.due("gate of " + size + " at age " + age, run.frame(4 * age + 3), due);
                }
                Check.due("it moves on all the same", run.voice(0, 1), 0);
            }
        }
        Run run = Run.played(song("wave 0 short 99; gate 0 0;", "0 0 none 0"), 1);
        run.framesAre("one truth that is not", 0, 0, 0, 0, 0);
        run.voiceIs("it moves on all the same", 0, 0, 64, 16, 64, 1, 1);
        run = Run.played(song("wave 0 short 99; gate 0 1;", "0 0 none 0"), 1);
        run.framesAre("one truth that is", 0, 99, 99, 99, 99);
    }

    private static void swells() {
        Document.says("with a SWELL: times its real at AGE (as reals of 4 bytes, then towards 0), at the last one if AGE is"
            + " beyond.");
        for (int size : new int[] {1, 2, 15, 16}) {
            Run run = Run.played(song("wave 0 short -6401; loop 0 0 1; swell 0 " + Texts.numbers(size) + ";",
                "0 0 speed 12 . . "), 30);
            for (int age = 0; age < 30; age++) {
                int due = (int) (-6401f * (Math.min(age + 1, size) / 64f));
                Check.due("swell of " + size + " at age " + age, run.frame(4 * age), due);
                Check.due("swell of " + size + " at age " + age, run.frame(4 * age + 3), due);
            }
        }
        swell(32767, 1f, 32767);
        swell(-32768, 1f, -32768);
        swell(32767, 0f, 0);
        swell(-32768, -0f, 0);
        swell(1, Math.nextDown(1f), 0);
        swell(-1, Math.nextDown(1f), 0);
        swell(32767, Float.MIN_VALUE, 0);
        // 10 times the real next to 0.7 is nearer to 7 than to another real of 4 bytes
        swell(10, 0.7f, 7);
        swell(-10, 0.7f, -7);
        swell(10, Math.nextDown(0.7f), 6);
        Run run = Run.played(song("wave 0 short 64; loop 0 0 1; gate 0 1 0; swell 0 32 64 16;", "0 0 none 0"), 4);
        run.framesAre("both", 0, 32, 32, 32, 32, 0, 0, 0, 0, 16, 16, 16, 16, 0);
    }

    private static void swell(int cell, float real, int due) {
        byte[] instrument = Check.join(Check.row(5, 1, 1), Check.big(cell, 2), Check.row(1), Check.big(Texts.bits(real), 4));
        Run run = Run.played(Box.of(instrument, Box.rows(Box.note(0, 0, 0, 0)), Box.ORDER), 1);
        Check.due(cell + " times " + real, run.frame(0), due);
    }

    private static void loops() {
        Document.says("Then POSITION is STEP more; with a LOOP, as long as POSITION / 256 is B or more: B - A cells less.");
        Run run = Run.played(song("wave 0 byte 1 2;", "24 0 none 0"), 1);
        Check.due("step by step", run.voice(0, 1), 256);
        // 31 frames of 16 are a step ahead of B, 32 are at it
        run = Run.played(song("wave 0 byte 1 2 3; loop 0 1 2;", "0 0 speed 12"), 7);
        Check.due("ahead of B", run.voice(0, 1), 28 * 16);
        run.play(1);
        Check.due("at B", run.voice(0, 1), 256);
        run = Run.played(song("wave 0 byte 1 2 3; loop 0 0 2;", "0 0 speed 12"), 8);
        Check.due("at B, and A is 0", run.voice(0, 1), 0);
        int[][] loops = {{0, 1}, {0, 2}, {0, 3}, {1, 2}, {1, 4}, {5, 6}, {3, 64}, {63, 64}, {0, 64}};
        for (int[] loop : loops) {
            for (int p : new int[] {47, 48, 59, 60, 95}) {
                run = Run.of(song("wave 0 byte " + Texts.numbers(64) + "; loop 0 " + loop[0] + " " + loop[1] + ";",
                    p + " 0 none 0"));
                int position = 0;
                for (int t = 0; t < 6; t++) {
                    run.play(1);
                    for (int f = 0; f < 4; f++) {
                        position = looped(position + run.voice(0, 2), loop);
                    }
                    Check.due("loop " + loop[0] + " " + loop[1] + " pitch " + p, run.voice(0, 1), position);
                }
            }
        }
        // the largest step, and a position far behind the loop's end
        run = Run.played(song("wave 0 byte " + Texts.numbers(64) + "; loop 0 2 5;", "48 0 up 65535"), 2);
        Check.due("the largest step", run.voice(0, 2), 65535);
        int position = looped(4 * 256, new int[] {2, 5});
        for (int f = 0; f < 4; f++) {
            position = looped(position + 65535, new int[] {2, 5});
        }
        Check.due("the largest step", run.voice(0, 1), position);
        run = Run.played(song("wave 0 byte " + Texts.numbers(64) + "; loop 0 2 5;", "48 0 off 63"), 1);
        run.framesAre("behind the loop's end", 0, 64 * 256, 5 * 256, 3 * 256, 4 * 256);
        run = Run.played(song("wave 0 byte 1 2; loop 0 0 2;", "-1 0 off 7"), 1);
        Check.due("one that is not on stays where it is", run.voice(0, 1), 7 * 256);
    }

    private static int looped(int position, int[] loop) {
        int at = position;
        while (at / 256 >= loop[1]) {
            at -= (loop[1] - loop[0]) * 256;
        }
        return at;
    }

    private static void wholes() {
        Document.says("WHOLE: KIND 0 the cell times 256; 1 the cell; 2 it less 32768; 3 it / 2^16, 4 it / 2^48 (downwards); 5,"
            + " 6 it times 32768, towards 0, from -32768 to 32767 (beyond: the end).");
        whole(0, new long[] {-128, 127, 0, -1}, -32768, 32512, 0, -256);
        whole(1, new long[] {-32768, 32767, 0, -1}, -32768, 32767, 0, -1);
        whole(2, new long[] {0, 65535, 32768, 32767}, -32768, 32767, 0, -1);
        whole(3, new long[] {Integer.MIN_VALUE, Integer.MAX_VALUE, 0, -1}, -32768, 32767, 0, -1);
        whole(3, new long[] {65535, 65536, -65536, -65537}, 0, 1, -1, -2);
        whole(4, new long[] {Long.MIN_VALUE, Long.MAX_VALUE, 0, -1}, -32768, 32767, 0, -1);
        whole(4, new long[] {(1L << 48) - 1, 1L << 48, -(1L << 48), -(1L << 48) - 1}, 0, 1, -1, -2);
        real(1, 32767);
        real(-1, -32768);
        real(Math.nextDown(1f), 32767);
        real(32767 / 32768.0, 32767);
        real(Math.nextDown(32767 / 32768f), 32766);
        real(Math.nextUp(1f), 32767);
        real(-Math.nextUp(1f), -32768);
        real(-Math.nextDown(1f), -32767);
        real(1 / 32768.0, 1);
        real(-1 / 32768.0, -1);
        real(Math.nextDown(1 / 32768f), 0);
        real(-Math.nextDown(1 / 32768f), 0);
        real(1.5 / 32768, 1);
        real(-1.5 / 32768, -1);
        real(0, 0);
        real(-0.0, 0);
        real(1000000, 32767);
        real(-1000000, -32768);
        real(32769 / 32768.0, 32767);
        real(-32769 / 32768.0, -32768);
        // below the least real of 4 bytes
        whole(6, new long[] {1, Texts.bits(1e-300), Texts.bits(-1e-300), Texts.bits(Math.nextDown(1.0))}, 0, 0, 0, 32767);
        whole(5, new long[] {1, Texts.bits(-Float.MIN_VALUE), Texts.bits(Float.MIN_NORMAL), 0}, 0, 0, 0, 0);
    }

    /** WHOLES of cells, alone and with another voice that takes them away from the sum's ends. */
    private static void whole(int kind, long[] cells, int... due) {
        byte[] wave = Check.row(1, kind, cells.length);
        for (long cell : cells) {
            wave = Check.join(wave, Check.big(cell, Texts.WIDTHS[kind]));
        }
        for (int other : new int[] {0, -1, 1}) {
            byte[] rows = Check.join(Check.row(1, 2), Box.note(48, 0, 0, 0), Box.note(0, 1, 0, 0));
            byte[] container = Check.join(Box.HEAD, wave, Check.row(1, 1, 1), Check.big(other, 2), new byte[14], rows,
                new byte[15], Box.ORDER);
            Run run = Run.played(container, 1);
            for (int i = 0; i < due.length; i++) {
                int sum = Math.max(-32768, Math.min(32767, due[i] + other));
                Check.due("whole " + i + " of kind " + kind + " and " + other, run.frame(i), sum);
            }
        }
    }

    /** A real that both widths have. */
    private static void real(double cell, int due) {
        whole(5, new long[] {Texts.bits((float) cell)}, due);
        whole(6, new long[] {Texts.bits(cell)}, due);
    }

    private static void refused() {
        Document.says("REFUSED n: an EVENT with n, what was to be done is not.");
        String items = "wave 0 byte 7 8; wave 1 short 9; gate 0 1 0; swell 0 5 6; order 0; part 0 ";
        String[][] refusals = {
            {"0 -1 none 0", "1"}, {"-1 -1 set 5", "1"}, {"-1 -1 turn 0", "1"}, {"-1 -1 swell 9", "1"}, {"-1 -1 lend 1", "1"},
            {"-1 -1 lose 0", "1"}, {"-1 -1 copy 1", "1"}, {"-1 -1 swap 1", "1"}, {"-1 2 set 5", "2"}, {"-1 2 copy 1", "2"},
            {"-1 0 copy 2", "2"}, {"-1 2 swap 0", "2"}, {"-1 0 swap 2", "3"}, {"-1 1 turn 0", "4"}, {"-1 0 turn 2", "5"},
            {"-1 1 swell 9", "6"}, {"-1 0 copy 1", "8"}, {"-1 0 copy 16", "8"},
        };
        for (String[] refusal : refusals) {
            Run run = Run.played(items + "-1 -1 none 0, " + refusal[0] + ", 0 0 bump 0;", 1);
            run.eventsAre(refusal[0], Integer.parseInt(refusal[1]) + 16);
            Check.due("refusals", run.look(5), 1);
            String[] words = refusal[0].split(" ");
            Run none = Run.played(items + "-1 -1 none 0, -1 " + words[1] + " none 0, 0 0 bump 0;", 1);
            run.sameAs(refusal[0], none, PlayBounds::eventsOrPacked);
            run.play(5);
            Check.due("no more at later ticks", run.look(7), 1);
        }
    }
}
