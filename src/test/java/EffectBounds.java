/** Bounds of the EFFECTS: the ends of what each makes, what wraps around, and what each refuses. */
final class EffectBounds {
    private static final int LEAST = Integer.MIN_VALUE;
    private static final int MOST = Integer.MAX_VALUE;
    /** A WAVE of one cell, which is played on and on. */
    private static final byte[] TONE = Check.row(9, 0, 1, 5, 0, 1);

    private EffectBounds() {
    }

    static void test() {
        Document.leaves("==== 3. EFFECTS, by number, with ARGUMENT a.");
        nothing();
        volumes();
        offs();
        speeds();
        leaps();
        cuts();
        slides();
        steps();
        agains();
        Document.leaves("(Words: none vol slide up down cut again off speed jump next set add mul shr flip bump drop turn shut"
            + " open swell lend lose copy swap.)");
        for (int effect = 0; effect < 26; effect++) {
            Run run = Run.of("part 0 -1 -1 " + Texts.EFFECTS[effect] + " 0; order 0;");
            run.pack();
            Check.due(Texts.EFFECTS[effect], run.packed(Box.PART + 4), effect);
        }
    }

    /** A song of voice 0 alone, one row for each NOTE. */
    private static Run notes(int ticks, byte[]... notes) {
        return Run.played(Box.of(TONE, Box.rows(notes), Box.ORDER), ticks);
    }

    private static byte[] note(int pitch, int instrument, int effect, int a) {
        return Box.note(pitch, instrument, effect, a);
    }

    private static void nothing() {
        Document.says("At tick 0: 0 none.");
        for (int a : new int[] {0, 1, -1, MOST, LEAST}) {
            Run run = notes(6, note(0, 0, 0, a));
            run.voiceIs("none " + a, 0, 0, 24 * 16 % 256, 16, 64, 6, 1);
            run.eventsAre("none " + a);
            run.at("none " + a, 1, 0, 0, 1);
        }
        Document.says("6 again at tick 0: nothing.");
        for (int a : new int[] {0, 1, -1, 6, MOST, LEAST}) {
            Run run = notes(7, note(0, 0, 0, 0), note(-1, -1, 6, a));
            run.voiceIs("again " + a, 0, 0, 28 * 16 % 256, 16, 64, 7, 1);
            run = notes(1, note(-2, 0, 6, a));
            run.voiceIs("again " + a + " of one that is off", 0, 0, 0, 0, 64, 0, 0);
        }
    }

    private static void volumes() {
        Document.says("1 vol: VOLUME is a, from 0 to 64 (beyond: the end).");
        int[][] dues = {{0, 0}, {1, 1}, {63, 63}, {64, 64}, {65, 64}, {-1, 0}, {MOST, 64}, {LEAST, 0}, {128, 64}, {256, 64}};
        for (int[] due : dues) {
            Check.due("vol " + due[0], notes(1, note(-1, 0, 1, due[0])).voice(0, 3), due[1]);
            Check.due("vol " + due[0] + " at tick 0 alone", notes(6, note(-1, 0, 1, due[0])).voice(0, 3), due[1]);
            Run run = notes(1, note(-1, -1, 1, due[0]));
            run.voiceIs("vol " + due[0] + " without an instrument", 0, -1, 0, 0, due[1], 0, 0);
            run.eventsAre("vol refuses nothing");
        }
    }

    private static void offs() {
        Document.says("7 off: POSITION is 256 times a (a below 0: 0; above 1000: 1000).");
        int[][] dues = {{0, 0}, {1, 256}, {999, 255744}, {1000, 256000}, {1001, 256000}, {-1, 0}, {MOST, 256000}, {LEAST, 0}};
        for (int[] due : dues) {
            Run run = notes(7, note(-1, 0, 7, 3), note(-1, -1, 7, due[0]));
            run.voiceIs("off " + due[0], 0, 0, due[1], 0, 64, 0, 0);
            run.eventsAre("off " + due[0]);
            Check.due("off without an instrument", notes(1, note(-1, -1, 7, due[0])).voice(0, 1), due[1]);
        }
        Run run = notes(2, note(0, 0, 7, 0));
        Check.due("off at tick 0 alone", run.voice(0, 1), 8 * 16);
    }

    private static void speeds() {
        Document.says("8 speed: SPEED is a, from 1 to 12.");
        int[][] dues = {{1, 1}, {2, 2}, {11, 11}, {12, 12}, {13, 12}, {0, 1}, {-1, 1}, {MOST, 12}, {LEAST, 1}};
        for (int[] due : dues) {
            Run run = notes(1, note(-1, -1, 8, due[0]), note(-1, -1, 0, 0));
            Check.due("speed " + due[0], run.look(3), due[1]);
            Check.due("ticks of speed " + due[0], run.play(64), 2 * due[1] - 1);
        }
    }

    private static void leaps() {
        Document.says("9 jump: place a comes (below 0: 0), row 0.");
        int[][] jumps = {{0, 0, 0}, {1, 1, 0}, {2, 2, 0}, {3, 3, 1}, {-1, 0, 0}, {LEAST, 0, 0}, {MOST, MOST, 1}};
        byte[] order = Check.row(3, 1, 0, 1);
        for (int[] jump : jumps) {
            byte[] rows = Box.rows(note(-1, -1, 0, 0), note(-1, -1, 9, jump[0]), note(-1, -1, 0, 0));
            Run run = Run.played(Box.of(Box.NOTHING, rows, order), 18);
            run.at("jump " + jump[0], jump[1], 0, 0, jump[2]);
            Check.due("ticks behind jump " + jump[0], run.play(1), 1 - jump[2]);
        }
        Document.says("10 next: the next place comes, row a (below 0: 0).");
        int[][] nexts = {{0, 0}, {1, 1}, {2, 2}, {3, 3}, {-1, 0}, {LEAST, 0}, {MOST, MOST}};
        for (int[] next : nexts) {
            byte[] rows = Box.rows(note(-1, -1, 0, 0), note(-1, -1, 10, next[0]), note(-1, -1, 0, 0));
            Run run = Run.played(Box.of(Box.NOTHING, rows, order), 18);
            run.at("next " + next[0], 2, next[1], 0, 0);
            run = Run.played(Box.of(Box.NOTHING, rows, Box.ORDER), 12);
            run.at("next " + next[0] + " of the last place", 1, next[1], 0, 1);
        }
    }

    private static void cuts() {
        Document.says("5 cut: if a is 0, VOLUME 0.");
        for (int a : new int[] {0, 1, -1, MOST, LEAST}) {
            Run run = notes(1, note(0, 0, 5, a));
            Check.due("cut " + a + " at tick 0", run.voice(0, 3), a == 0 ? 0 : 64);
            Check.due("it stays on", run.voice(0, 5), 1);
        }
        Document.says("5 cut: if t is a, VOLUME 0.");
        for (int a : new int[] {-1, 1, 2, 10, 11, 12, 13, MOST, LEAST}) {
            byte[] row = Check.join(Check.row(2, 2), note(0, 0, 5, a), note(-1, -1, 8, 12), Check.row(0));
            Run run = Run.of(Box.of(TONE, row, Box.ORDER));
            for (int t = 0; t < 24; t++) {
                run.play(1);
                Check.due("cut " + a + " at tick " + t, run.voice(0, 3), a > 0 && a < 12 && t >= a ? 0 : 64);
            }
        }
    }

    private static void slides() {
        Document.says("At other ticks t: 2 slide: VOLUME is a more, from 0 to 64.");
        int[][] dues = {
            // VOLUME, a, VOLUME behind one other tick
            {32, 31, 63}, {32, 32, 64}, {32, 33, 64}, {32, -31, 1}, {32, -32, 0}, {32, -33, 0}, {64, 1, 64}, {0, -1, 0},
            {64, MOST, 64}, {0, LEAST, 0}, {64, LEAST, 0}, {0, MOST, 64}, {32, 0, 32}, {64, -1, 63}, {0, 1, 1},
        };
        for (int[] due : dues) {
            Run run = notes(7, note(-1, 0, 1, due[0]), note(-1, -1, 2, due[1]));
            Check.due("slide " + due[1] + " at tick 0", run.voice(0, 3), due[0]);
            run.play(1);
            Check.due("slide " + due[1] + " from " + due[0], run.voice(0, 3), due[2]);
        }
    }

    private static void steps() {
        Document.says("3 up: STEP is a more, 4 down: a less, from 0 to 65535 (without overflow).");
        int[][] dues = {
            // a, STEP behind one other tick of up from 256, and of down
            {0, 256, 256}, {1, 257, 255}, {-1, 255, 257}, {256, 512, 0}, {257, 513, 0}, {-256, 0, 512}, {-257, 0, 513},
            {65278, 65534, 0}, {65279, 65535, 0}, {65280, 65535, 0}, {-65279, 0, 65535}, {-65280, 0, 65535},
            {MOST, 65535, 0}, {LEAST, 0, 65535}, {MOST - 255, 65535, 0}, {LEAST + 256, 0, 65535},
        };
        for (int[] due : dues) {
            for (int effect = 3; effect < 5; effect++) {
                Run run = notes(1, note(48, 0, effect, due[0]));
                Check.due(Texts.EFFECTS[effect] + " " + due[0] + " at tick 0", run.voice(0, 2), 256);
                run.play(1);
                Check.due(Texts.EFFECTS[effect] + " " + due[0], run.voice(0, 2), due[effect - 2]);
                run.eventsAre(Texts.EFFECTS[effect]);
            }
        }
        Check.due("up without an instrument", notes(2, note(-1, -1, 3, 9)).voice(0, 2), 9);
        Run run = notes(3, note(-1, 0, 3, MOST));
        Check.due("up from the end", run.voice(0, 2), 65535);
        Check.due("down from the end", notes(3, note(-1, 0, 4, MOST)).voice(0, 2), 0);
    }

    private static void agains() {
        Document.says("6 again: if a is above 0 and t is a multiple of it: POSITION and AGE 0, ON, if it has an INSTRUMENT.");
        for (int a : new int[] {LEAST, -1, 0, 1, 2, 3, 5, 6, 11, 12, MOST}) {
            byte[] row = Check.join(Check.row(1, 2), note(0, 0, 6, a), note(-1, -1, 8, 12));
            Run run = Run.of(Box.of(TONE, row, Box.ORDER));
            int age = 0;
            for (int t = 0; t < 12; t++) {
                run.play(1);
                age = a > 0 && t > 0 && t % a == 0 ? 1 : age + 1;
                Check.due("again " + a + " at tick " + t, run.voice(0, 4), age);
                Check.due("again " + a + " at tick " + t, run.voice(0, 1), 4 * age * 16 % 256);
            }
        }
        Run run = notes(7, note(48, 0, 3, 9), note(-2, -1, 6, 1));
        Check.due("off at tick 0", run.voice(0, 5), 0);
        int step = run.voice(0, 2);
        run.play(1);
        run.voiceIs("on at tick 1", 0, 0, 4 * step % 256, step, 64, 1, 1);
        run = notes(6, note(-1, -1, 6, 1));
        run.voiceIs("without an instrument", 0, -1, 0, 0, 0, 0, 0);
        run.eventsAre("no refusal");
    }
}
