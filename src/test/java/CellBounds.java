/** Bounds of the EFFECTS on an INSTRUMENT's CELLS, truths, SWELL and WAVE. */
final class CellBounds {
    private static final int LEAST = Integer.MIN_VALUE;
    private static final int MOST = Integer.MAX_VALUE;
    private static final int[] ARGUMENTS = {0, 1, -1, 2, 3, -7, 14, 15, 16, 17, 31, 255, 256, 65535, 65536, 999999999, MOST, LEAST};

    private CellBounds() {
    }

    static void test() {
        refusedCells();
        whichCell();
        wholes();
        reals();
        Document.says("(Wholes keep their lowest bytes; reals are HELD.)");
        wrapAround();
        truths();
        swells();
        lending();
        losing();
        copying();
        swapping();
    }

    /** A refusal, behind which all is as if there had been no EFFECT. */
    private static void refused(String what, byte[] instrument, byte[] before, byte[] note, int number) {
        byte[] none = note.clone();
        none[2] = 0;
        Run run = Run.played(Box.of(instrument, Box.rows(before, note), Box.ORDER), 7);
        run.eventsAre(what, number + 128 * 6);
        Check.due(what + ": refusals", run.look(5), 1);
        Run without = Run.played(Box.of(instrument, Box.rows(before, none), Box.ORDER), 7);
        run.sameAs(what, without, PlayBounds::eventsOrPacked);
    }

    private static byte[] wave(int kind, long... cells) {
        byte[] all = Check.row(1, kind, cells.length);
        for (long cell : cells) {
            all = Check.join(all, Check.big(cell, Texts.WIDTHS[kind]));
        }
        return all;
    }

    private static void refusedCells() {
        Document.says("On CELLS of the WAVE of the voice's INSTRUMENT (REFUSED 1 without one, 2 without a WAVE, 3 beyond), at"
            + " cell POSITION / 256:");
        byte[] nothing = Box.note(-1, -1, 0, 0);
        for (int effect = 11; effect < 18; effect++) {
            String name = Texts.EFFECTS[effect];
            for (int kind = 0; kind < 7; kind++) {
                byte[] wave = wave(kind, 0, 0, 0);
                refused(name + " without an instrument", wave, nothing, Box.note(-1, -1, effect, 2), 1);
                refused(name + " without a wave", wave, nothing, Box.note(-1, 1, effect, 2), 2);
                refused(name + " beyond", wave, Box.note(-1, 0, 7, 3), Box.note(-1, -1, effect, 2), 3);
                refused(name + " far beyond", wave, Box.note(-1, 0, 7, 1000), Box.note(-1, -1, effect, 2), 3);
            }
            byte[] full = wave(0, new long[64]);
            refused(name + " beyond 64", full, Box.note(-1, 0, 7, 64), Box.note(-1, -1, effect, 2), 3);
            refused(name + " with no wave at 1000", Box.NOTHING, Box.note(-1, 0, 7, 1000), Box.note(-1, -1, effect, 2), 2);
        }
    }

    private static void whichCell() {
        for (int size : new int[] {1, 2, 64}) {
            for (int at : new int[] {0, size - 1}) {
                byte[] rows = Box.rows(Box.note(-1, 0, 7, at), Box.note(-1, -1, 11, 7));
                Run run = Run.played(Box.of(wave(0, new long[size]), rows, Box.ORDER), 7);
                long[] due = new long[size];
                due[at] = 7;
                run.cellsAre("cell " + at + " of " + size, 0, due);
                run.eventsAre("cell " + at + " of " + size);
            }
        }
        // 15 frames of 16 are within cell 0, 16 at cell 1
        for (int speed = 3; speed < 6; speed++) {
            Run run = Run.played("wave 0 byte 1 1; part 0 0 0 speed " + speed + " . -1 -1 set 9; order 0;", speed + 1);
            run.cellsAre("at " + speed * 64, 0, speed < 4 ? 9 : 1, speed < 4 ? 1 : 9);
        }
    }

    /** What an EFFECT makes of a whole, ahead of keeping its lowest bytes. */
    private static long made(int effect, long old, int a) {
        switch (effect) {
            case 11: return a;
            case 12: return old + a;
            case 13: return old * a;
            case 14: return old >> (a & 15);
            case 15: return ~old;
            case 16: return old + 1;
            default: return old - 1;
        }
    }

    private static void wholes() {
        String[] says = {"11 set: a is PUT.", "12 add: it is a more (reals: by a / 256, as PUT).",
            "13 mul: it is a times itself (reals: a as a real of that width).",
            "14 shr: it goes right by the lowest 4 bits of a (its sign comes in; reals: divided by 2 to that power).",
            "15 flip: wholes: all bits turned; reals: with the other sign.", "16 bump: 1 more.", "17 drop: 1 less."};
        long[][] olds = {
            {-128, 127, 0, -1, 64}, {-32768, 32767, 0, -1, 16384}, {0, 65535, 32767, 32768, 1}, {LEAST, MOST, 0, -1, 1 << 30},
            {Long.MIN_VALUE, Long.MAX_VALUE, 0, -1, 1L << 62},
        };
        for (int effect = 11; effect < 18; effect++) {
            Document.says(says[effect - 11]);
            for (int kind = 0; kind < 5; kind++) {
                for (long old : olds[kind]) {
                    for (int a : ARGUMENTS) {
                        cell(kind, old, effect, a, Texts.lowest(kind, made(effect, old, a)));
                    }
                }
            }
        }
        Document.says(says[3]);
        cell(1, -32768, 14, 15, -1);
        cell(1, -32768, 14, 16, -32768);
        cell(1, -32768, 14, 17, -16384);
        cell(1, 32767, 14, 15, 0);
        cell(1, 32767, 14, -1, 0);
        cell(2, 65535, 14, 15, 1);
        cell(2, 65535, 14, 16, 65535);
        cell(0, -1, 14, 15, -1);
        cell(4, Long.MIN_VALUE, 14, 15, Long.MIN_VALUE >> 15);
    }

    private static void cell(int kind, long old, int effect, int a, long due) {
        Run run = Run.played(Box.of(wave(kind, old, old), Box.rows(Box.note(-1, 0, effect, a)), Box.ORDER), 2);
        String name = Texts.EFFECTS[effect] + " " + a + " of " + old + " in kind " + kind;
        Check.due(name, run.cell(0, 0), due);
        Check.due(name + ": the next cell", run.cell(0, 1), old);
    }

    private static long bits(int kind, double real) {
        return kind == 5 ? Texts.bits((float) real) : Texts.bits(real);
    }

    private static void reals() {
        for (int kind = 5; kind < 7; kind++) {
            cell(kind, bits(kind, 9), 11, 1, bits(kind, 1 / 256.0));
            cell(kind, bits(kind, 9), 11, -256, bits(kind, -1));
            cell(kind, bits(kind, 9), 12, 128, bits(kind, 9.5));
            cell(kind, bits(kind, 0.5), 12, -128, 0);
            cell(kind, bits(kind, -0.0), 12, 0, 0);
            cell(kind, bits(kind, 1.5), 13, -2, bits(kind, -3));
            cell(kind, bits(kind, -1.5), 13, 0, bits(kind, -0.0));
            cell(kind, bits(kind, 1.5), 13, 0, 0);
            // a 0 has the sign that both have together
            for (int a : new int[] {1, 5, MOST, 0}) {
                cell(kind, 0, 13, a, 0);
                cell(kind, bits(kind, -0.0), 13, a, bits(kind, -0.0));
            }
            for (int a : new int[] {-1, -5, LEAST}) {
                cell(kind, 0, 13, a, bits(kind, -0.0));
                cell(kind, bits(kind, -0.0), 13, a, 0);
            }
            for (int a : new int[] {0, 1, 15}) {
                cell(kind, 0, 14, a, 0);
                cell(kind, bits(kind, -0.0), 14, a, bits(kind, -0.0));
            }
            cell(kind, bits(kind, -3), 14, 0, bits(kind, -3));
            cell(kind, bits(kind, -3), 14, 1, bits(kind, -1.5));
            cell(kind, bits(kind, -3), 14, 15, bits(kind, -3 / 32768.0));
            cell(kind, bits(kind, -3), 14, 16, bits(kind, -3));
            cell(kind, bits(kind, -3), 14, -1, bits(kind, -3 / 32768.0));
            cell(kind, bits(kind, 0), 15, 9, bits(kind, -0.0));
            cell(kind, bits(kind, -0.0), 15, 9, 0);
            cell(kind, bits(kind, 1000000), 15, 9, bits(kind, -1000000));
            cell(kind, 1, 15, 9, kind == 5 ? LEAST + 1 : Long.MIN_VALUE + 1);
            cell(kind, 1, 14, 15, 0);
            cell(kind, kind == 5 ? LEAST + 1 : Long.MIN_VALUE + 1, 14, 15, bits(kind, -0.0));
            cell(kind, bits(kind, -1), 16, 9, 0);
            cell(kind, bits(kind, 1), 17, 9, 0);
            cell(kind, bits(kind, 999999.5), 16, 9, bits(kind, 1000000));
            cell(kind, bits(kind, -999999.5), 17, 9, bits(kind, -1000000));
            cell(kind, bits(kind, 1000000), 17, 9, bits(kind, 999999));
            cell(kind, bits(kind, -1000000), 16, 9, bits(kind, -999999));
        }
        // what is added, or multiplied by, is a real of 4 bytes first
        cell(5, Texts.bits(1 / 256f), 12, 16777217, Texts.bits(65536f));
        cell(6, Texts.bits(1 / 256.0), 12, 16777217, Texts.bits(16777218 / 256.0));
        cell(5, Texts.bits(3 / 1024f), 13, 16777219, Texts.bits(50331660 / 1024f));
        cell(6, Texts.bits(3 / 1024.0), 13, 16777219, Texts.bits(50331657 / 1024.0));
    }

    /** One more than the largest, one less than the least, and far beyond them. */
    private static void wrapAround() {
        long[] least = {-128, -32768, 0, LEAST, Long.MIN_VALUE};
        long[] most = {127, 32767, 65535, MOST, Long.MAX_VALUE};
        for (int kind = 0; kind < 5; kind++) {
            cell(kind, most[kind], 16, 0, least[kind]);
            cell(kind, least[kind], 17, 0, most[kind]);
            cell(kind, most[kind], 12, 1, least[kind]);
            cell(kind, least[kind], 12, -1, most[kind]);
            cell(kind, most[kind], 12, MOST, Texts.lowest(kind, most[kind] + MOST));
            cell(kind, most[kind], 13, 2, Texts.lowest(kind, -2));
            cell(kind, least[kind], 13, -1, least[kind]);
            cell(kind, most[kind], 15, 0, least[kind]);
            cell(kind, least[kind], 15, 0, most[kind]);
        }
        for (int kind = 5; kind < 7; kind++) {
            cell(kind, bits(kind, 1000000), 16, 0, bits(kind, 1000000));
            cell(kind, bits(kind, -1000000), 17, 0, bits(kind, -1000000));
            cell(kind, bits(kind, 1000000), 12, MOST, bits(kind, 1000000));
            cell(kind, bits(kind, -1000000), 12, LEAST, bits(kind, -1000000));
            cell(kind, bits(kind, 500000), 13, 2, bits(kind, 1000000));
            cell(kind, bits(kind, 500000), 13, 3, bits(kind, 1000000));
            cell(kind, bits(kind, 500000), 13, -3, bits(kind, -1000000));
        }
    }

    private static void truths() {
        Document.says("On truths of its GATE (REFUSED 1, 4 without one, 5 beyond), at truth a: 18 turn: the other one. 19 shut:"
            + " not. 20 open: so.");
        byte[] nothing = Box.note(-1, -1, 0, 0);
        for (int size : new int[] {1, 8, 9, 32}) {
            for (int was = 0; was < 2; was++) {
                byte[] eights = new byte[(size + 7) / 8];
                for (int i = 0; i < size * was; i++) {
                    eights[i / 8] |= (byte) (128 >> i % 8);
                }
                byte[] gate = Check.join(Check.row(2, size), eights);
                for (int effect = 18; effect < 21; effect++) {
                    for (int at : new int[] {0, size - 1}) {
                        Run run = Run.played(Box.of(gate, Box.rows(Box.note(-1, 0, effect, at)), Box.ORDER), 2);
                        for (int i = 0; i < size; i++) {
                            int due = i != at ? was : effect == 18 ? 1 - was : effect - 19;
                            Check.due(Texts.EFFECTS[effect] + " " + at + ": truth " + i, run.gate(0, i), due);
                        }
                        run.eventsAre(Texts.EFFECTS[effect]);
                    }
                    for (int a : new int[] {-1, size, 1000, MOST, LEAST}) {
                        refused(Texts.EFFECTS[effect] + " " + a, gate, nothing, Box.note(-1, 0, effect, a), 5);
                    }
                    refused("no instrument", gate, nothing, Box.note(-1, -1, effect, 0), 1);
                    refused("no gate", gate, nothing, Box.note(-1, 1, effect, 0), 4);
                    refused("no gate", gate, nothing, Box.note(-1, 1, effect, -1), 4);
                }
            }
        }
    }

    private static void swells() {
        Document.says("On its SWELL (REFUSED 1, 6 without one, 7 beyond), at AGE: 21 swell: it is a / 64 more (as reals of 4"
            + " bytes), from 0 to 1 (beyond: the end).");
        byte[] nothing = Box.note(-1, -1, 0, 0);
        int[][] dues = {
            // 64ths, a, 64ths
            {32, 0, 32}, {32, 31, 63}, {32, 32, 64}, {32, 33, 64}, {32, -31, 1}, {32, -32, 0}, {32, -33, 0}, {64, 1, 64},
            {0, -1, 0}, {64, -64, 0}, {0, 64, 64}, {0, 65, 64}, {64, -65, 0}, {64, MOST, 64}, {0, LEAST, 0}, {64, LEAST, 0},
            {0, MOST, 64},
        };
        for (int[] due : dues) {
            swell(due[0] / 64f, due[1], due[2] / 64f);
        }
        swell(Math.nextDown(1f), 0, Math.nextDown(1f));
        swell(Float.MIN_VALUE, 0, Float.MIN_VALUE);
        swell(Float.MIN_VALUE, 1, 1 / 64f);
        swell(Float.MIN_VALUE, -1, 0);
        swell(1 / 3f, 1, 1 / 3f + 1 / 64f);
        // at an AGE of the last real, and of one behind it
        for (int size : new int[] {1, 2, 11}) {
            byte[] instrument = Check.join(Check.row(13, 0, 1, 5, size), new byte[4 * size], Check.row(0, 1));
            byte[] note = Box.note(-1, -1, 21, 16);
            if (size > 1) {
                byte[] rows = Box.rows(Box.note(0, 0, 8, size - 1), note);
                Run run = Run.played(Box.of(instrument, rows, Box.ORDER), size);
                run.eventsAre("age " + (size - 1));
                for (int i = 0; i < size; i++) {
                    Check.due("real " + i, run.swell(0, i), i == size - 1 ? Texts.bits(0.25f) : 0);
                }
            }
            byte[] rows = Box.rows(Box.note(0, 0, 8, size), note);
            Run run = Run.played(Box.of(instrument, rows, Box.ORDER), size + 1);
            run.eventsAre("age " + size, 7 + 128 * size);
            for (int i = 0; i < size; i++) {
                Check.due("real " + i, run.swell(0, i), 0);
            }
        }
        byte[] swell = Check.row(4, 1, 0, 0, 0, 0);
        refused("no instrument", swell, nothing, Box.note(-1, -1, 21, 5), 1);
        refused("no swell", swell, nothing, Box.note(-1, 1, 21, 5), 6);
        byte[] tone = Check.join(Check.row(13, 0, 1, 5, 1), new byte[4], Check.row(0, 1));
        refused("beyond", tone, Box.note(0, 0, 0, 0), Box.note(-1, -1, 21, 5), 7);
    }

    private static void swell(float old, int a, float due) {
        byte[] swell = Check.join(Check.row(4, 1), Check.big(Texts.bits(old), 4));
        Run run = Run.played(Box.of(swell, Box.rows(Box.note(-1, 0, 21, a)), Box.ORDER), 2);
        Check.due("swell " + a + " of " + old, run.swell(0, 0), Texts.bits(due));
        run.eventsAre("swell " + a + " of " + old);
    }

    private static String song(String items, String rows) {
        return items + " part 0 " + rows + "; order 0;";
    }

    private static void lending() {
        Document.says("22 lend: the INSTRUMENT's WAVE becomes that of INSTRUMENT a, the same cells (REFUSED 1; nothing, if a is"
            + " none of 0 .. 15; it may be missing).");
        String two = "wave 0 byte 1 2; wave 15 short 7 8 9; wave 3 int 5;";
        Run run = Run.played(song(two, "-1 3 lend 0 . -1 -1 set 9 . -1 0 bump 0"), 18);
        run.cellsAre("the same cells", 0, 10, 2);
        run.cellsAre("the same cells", 3, 10, 2);
        Check.due("the least with them", run.instrument(3, 6), 0);
        Check.due("the least with them", run.instrument(0, 6), 0);
        run = Run.played(song(two, "-1 3 lend 15"), 1);
        run.cellsAre("of 15", 3, 7, 8, 9);
        Check.due("kind", run.instrument(3, 0), 1);
        Check.due("the least with them", run.instrument(15, 6), 3);
        byte[] wave = wave(0, 1, 2);
        for (int a : new int[] {-1, 16, 17, 255, 256, MOST, LEAST}) {
            run = Run.played(Box.of(wave, Box.rows(Box.note(-1, 0, 22, a)), Box.ORDER), 1);
            Run same = Run.played(Box.of(wave, Box.rows(Box.note(-1, 0, 0, a)), Box.ORDER), 1);
            run.sameAs("lend " + a, same, name -> name.contains("packed"));
        }
        refused("no instrument", wave, Box.note(-1, -1, 0, 0), Box.note(-1, -1, 22, 0), 1);
        refused("no instrument", wave, Box.note(-1, -1, 0, 0), Box.note(-1, -1, 22, 16), 1);
        run = Run.played(song(two, "-1 0 lend 14"), 1);
        Check.due("it may be missing", run.instrument(0, 0), -1);
        Check.due("it may be missing", run.cell(0, 0), Check.NO_CELL);
        run.eventsAre("it may be missing");
        run = Run.played(Box.of(Box.NOTHING, Box.rows(Box.note(-1, 0, 22, 15)), Box.ORDER), 1);
        run.eventsAre("both missing");
        run = Run.played(song(two, "-1 0 lend 0"), 1);
        run.cellsAre("its own", 0, 1, 2);
        // one becomes what another was; what is lent later does not follow
        run = Run.played(song(two, "-1 0 lend 3, -1 3 lend 15"), 1);
        run.cellsAre("as it was lent", 0, 5);
        run.cellsAre("lent anew", 3, 7, 8, 9);
        Check.due("alone", run.instrument(0, 6), 0);
    }

    private static void losing() {
        Document.says("23 lose: the INSTRUMENT's WAVE goes (REFUSED 1).");
        Run run = Run.played(song("wave 0 byte 1 2; gate 0 1; swell 0 5; loop 0 0 1;", "-1 0 lose 5"), 1);
        int[] due = {-1, -1, 1, 1, 0, 1, -1};
        for (int what = 0; what < 7; what++) {
            Check.due("instrument(0, " + what + ")", run.instrument(0, what), due[what]);
        }
        Check.due("cell", run.cell(0, 0), Check.NO_CELL);
        run.eventsAre("lost");
        run = Run.played(song("wave 0 byte 1 2;", "-1 1 lend 0 . -1 0 lose 0 . -1 -1 lose 0"), 18);
        run.eventsAre("lost twice");
        run.cellsAre("who has it too keeps it", 1, 1, 2);
        Check.due("the least with them", run.instrument(1, 6), 1);
        refused("no instrument", wave(0, 1), Box.note(-1, -1, 0, 0), Box.note(-1, -1, 23, 0), 1);
        run = Run.played(song("wave 0 byte 1 2;", "0 0 lose 0"), 1);
        run.eventsAre("a frame without it", 2);
    }

    private static void copying() {
        Document.says("24 copy: cells of INSTRUMENT a's WAVE come to its own from the first on, as many as both have (REFUSED 1;"
            + " 2, if one is missing; 8, if a is none of 0 .. 15, or they are of two KINDS).");
        byte[] nothing = Box.note(-1, -1, 0, 0);
        for (int kind = 0; kind < 7; kind++) {
            for (int other = 0; other < 7; other++) {
                String text = song("wave 0 " + Texts.KINDS[kind] + " 1 2 3; wave 15 " + Texts.KINDS[other] + " 7 8;", "-1 0 copy 15");
                Run run = Run.played(text, 1);
                if (kind == other) {
                    run.cellsAre("copied", 0, Texts.put(kind, 7), Texts.put(kind, 8), Texts.put(kind, 3));
                    run.eventsAre("copied");
                } else {
                    run.cellsAre("two kinds", 0, Texts.put(kind, 1), Texts.put(kind, 2), Texts.put(kind, 3));
                    run.eventsAre("two kinds", 8);
                }
                run.cellsAre("the other's", 15, Texts.put(other, 7), Texts.put(other, 8));
            }
        }
        int[][] sizes = {{1, 1}, {1, 64}, {64, 1}, {64, 64}, {63, 64}, {64, 63}};
        for (int[] size : sizes) {
            Run run = Run.played(song("wave 0 int " + Texts.times("-5 ", size[0]) + "; wave 1 int " + Texts.numbers(size[1]) + ";",
                "-1 0 copy 1"), 1);
            long[] due = new long[size[0]];
            for (int i = 0; i < size[0]; i++) {
                due[i] = i < size[1] ? i + 1 : -5;
            }
            run.cellsAre("as many as both have", 0, due);
            Check.due("cells of their own", run.instrument(1, 6), 1);
        }
        refused("no instrument", wave(0, 1), nothing, Box.note(-1, -1, 24, 0), 1);
        refused("no instrument", wave(0, 1), nothing, Box.note(-1, -1, 24, 16), 1);
        refused("its own is missing", wave(0, 1), nothing, Box.note(-1, 1, 24, 0), 2);
        refused("the other's is missing", wave(0, 1), nothing, Box.note(-1, 0, 24, 1), 2);
        refused("the other's is missing", wave(0, 1), nothing, Box.note(-1, 0, 24, 15), 2);
        refused("both are missing", wave(0, 1), nothing, Box.note(-1, 1, 24, 2), 2);
        for (int a : new int[] {-1, 16, MOST, LEAST}) {
            refused("copy " + a, wave(0, 1), nothing, Box.note(-1, 0, 24, a), 8);
        }
        Run run = Run.played(song("wave 0 byte 1 2;", "-1 0 copy 0"), 1);
        run.cellsAre("of itself", 0, 1, 2);
        run = Run.played(song("wave 0 byte 1 2;", "-1 1 lend 0, -1 1 copy 0"), 1);
        run.cellsAre("of the same cells", 1, 1, 2);
        run.eventsAre("of the same cells");
    }

    private static void swapping() {
        Document.says("25 swap: cells 0 and a of its WAVE change places (REFUSED 1, 2, 3).");
        byte[] nothing = Box.note(-1, -1, 0, 0);
        for (int kind = 0; kind < 7; kind++) {
            for (int size : new int[] {1, 2, 3, 64}) {
                for (int a : new int[] {0, size / 2, size - 1}) {
                    Run run = Run.played(song("wave 0 " + Texts.KINDS[kind] + " " + Texts.numbers(size) + ";", "-1 0 swap " + a), 1);
                    long[] due = new long[size];
                    for (int i = 0; i < size; i++) {
                        due[i] = Texts.put(kind, (i == 0 ? a : i == a ? 0 : i) + 1);
                    }
                    run.cellsAre("swap " + a, 0, due);
                    run.eventsAre("swap " + a);
                }
                for (int a : new int[] {-1, size, 1000, MOST, LEAST}) {
                    refused("swap " + a, wave(kind, new long[size]), nothing, Box.note(-1, 0, 25, a), 3);
                }
            }
        }
        refused("no instrument", wave(0, 1), nothing, Box.note(-1, -1, 25, 0), 1);
        refused("no wave", wave(0, 1), nothing, Box.note(-1, 1, 25, 0), 2);
        refused("no wave", wave(0, 1), nothing, Box.note(-1, 1, 25, -1), 2);
        Run run = Run.played(song("wave 0 byte 1 2 3;", "-1 0 off 9 . -1 -1 swap 2"), 7);
        run.cellsAre("wherever the POSITION is", 0, 3, 2, 1);
    }
}
