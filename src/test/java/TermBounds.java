/** Bounds that the terms name ahead of the texts: how many there may be of each, and the ends of each number. */
final class TermBounds {
    private TermBounds() {
    }

    static void test() {
        Document.leaves("MODULES.");
        instrumentsAndParts();
        cells();
        kinds();
        truths();
        swells();
        loops();
        rows();
        notes();
        order();
        putWholes();
        putReals();
        nearest();
        held();
    }

    private static void instrumentsAndParts() {
        Document.says("INSTRUMENTS are 0 .. 15, PARTS 0 .. 15.");
        for (int n : new int[] {0, 15}) {
            String items = "wave N byte 7; gate N 1; swell N 64; loop N 0 1; part N 48 N none 0; order N;";
            Run run = Run.played(items.replace("N", "" + n), 1);
            Check.due("wave " + n, run.cell(n, 0), 7);
            Check.due("gate " + n, run.gate(n, 0), 1);
            Check.due("swell " + n, run.swell(n, 0), Texts.bits(1f));
            Check.due("loop " + n, run.instrument(n, 5), 1);
            Check.due("part " + n + " is there", run.look(7), 0);
            run.framesAre("instrument " + n + " is played", 0, 7 * 256, 7 * 256);
        }
        for (int n : new int[] {-1, 16, -999999999, 999999999}) {
            for (String item : new String[] {"wave", "gate", "swell", "loop", "part", "order"}) {
                Texts.fault(3, item + " |" + n + " ;");
            }
        }
        Run run = Run.of("wave 0 byte 7; gate 0 1; swell 0 64; loop 0 0 1; wave 15 byte 8; order 0;");
        for (int k : new int[] {-1, 16, Integer.MIN_VALUE, Integer.MAX_VALUE}) {
            for (int what = 0; what < 7; what++) {
                Check.due("instrument(" + k + ", " + what + ")", run.instrument(k, what), -1);
            }
            Check.due("cell(" + k + ", 0)", run.cell(k, 0), Check.NO_CELL);
            Check.due("gate(" + k + ", 0)", run.gate(k, 0), -1);
            Check.due("swell(" + k + ", 0)", run.swell(k, 0), -1);
        }
    }

    private static void cells() {
        Document.says("An INSTRUMENT may have a WAVE: 1 to 64 CELLS of a KIND: 0 wholes of 1 byte, 1 of 2, 2 of 2"
            + " without sign, 3 of 4, 4 of 8 bytes, 5 reals of 4, 6 of 8 bytes;");
        for (int kind = 0; kind < 7; kind++) {
            String start = "wave 3 " + Texts.KINDS[kind] + " ";
            long[] full = new long[64];
            for (int i = 0; i < 64; i++) {
                full[i] = Texts.put(kind, i + 1);
            }
            Run.of(start + "1; order 0;").cellsAre("one cell", 3, full[0]);
            Run run = Run.of(start + Texts.numbers(64) + "; order 0;");
            run.cellsAre("64 cells", 3, full);
            Check.due("kind", run.instrument(3, 0), kind);
            Check.due("no cell ahead of the first one", run.cell(3, -1), Check.NO_CELL);
            Check.due("another has none", run.instrument(2, 0), -1);
            Texts.fault(2, start + "|;");
            Texts.fault(5, start + Texts.numbers(64) + "|65;");
            int width = Texts.WIDTHS[kind];
            run = Run.of(Box.instrument(Check.row(1, kind, 1), new byte[width]));
            run.cellsAre("one cell of a container", 0, 0);
            run = Run.of(Box.instrument(Check.row(1, kind, 64), new byte[64 * width]));
            run.cellsAre("64 cells of a container", 0, new long[64]);
            Box.fault("no cells", Box.instrument(Check.row(1, kind, 0)), Box.INSTRUMENT + 2);
            Box.fault("65 cells", Box.instrument(Check.row(1, kind, 65), new byte[65 * width]), Box.INSTRUMENT + 2);
            Box.fault("255 cells", Box.instrument(Check.row(1, kind, 255), new byte[255 * width]), Box.INSTRUMENT + 2);
        }
        Texts.fault(2, "wave 3 |floats 1;");
        Box.fault("kind 7", Box.instrument(Check.row(1, 7, 1), new byte[8]), Box.INSTRUMENT + 1);
        Box.fault("kind 255", Box.instrument(Check.row(1, 255, 1), new byte[8]), Box.INSTRUMENT + 1);
    }

    /** The least and the largest cell of each KIND, and both sides of 0. */
    private static void kinds() {
        long[][] cells = {
            {-128, 127, 0, -1}, {-32768, 32767, 0, -1}, {0, 65535, 32768, 32767},
            {Integer.MIN_VALUE, Integer.MAX_VALUE, 0, -1}, {Long.MIN_VALUE, Long.MAX_VALUE, 0, -1},
            {Texts.bits(-1000000f), Texts.bits(1000000f), Texts.bits(-0f), Texts.bits(Float.MIN_VALUE)},
            {Texts.bits(-1000000.0), Texts.bits(1000000.0), Texts.bits(-0.0), Texts.bits(Double.MIN_VALUE)},
        };
        for (int kind = 0; kind < 7; kind++) {
            byte[] wave = Check.row(1, kind, 4);
            for (long cell : cells[kind]) {
                wave = Check.join(wave, Check.big(cell, Texts.WIDTHS[kind]));
            }
            Run run = Run.of(Box.instrument(wave));
            run.cellsAre("ends of kind " + kind, 0, cells[kind]);
            Check.due("pack", run.pack(), Box.instrument(wave).length);
            for (int i = 0; i < wave.length; i++) {
                Check.due("packed", run.packed(Box.INSTRUMENT + i), wave[i] & 255);
            }
        }
    }

    private static void truths() {
        Document.says("a GATE: 1 to 32 truths;");
        for (int size : new int[] {1, 2, 31, 32}) {
            Run run = Run.of("gate 3 " + Texts.times("0 1 ", 16).substring(0, 2 * size) + "; order 0;");
            Check.due("truths", run.instrument(3, 2), size);
            for (int i = 0; i < size; i++) {
                Check.due("truth " + i + " of " + size, run.gate(3, i), i % 2);
            }
            Check.due("no truth behind the last one", run.gate(3, size), -1);
            Check.due("no truth ahead of the first one", run.gate(3, -1), -1);
        }
        Texts.fault(2, "gate 3 |;");
        Texts.fault(5, "gate 3 " + Texts.times("0 ", 32) + "|0;");
        Box.fault("no truths", Box.instrument(Check.row(2, 0)), Box.INSTRUMENT + 1);
        Box.fault("33 truths", Box.instrument(Check.row(2, 33, 0, 0, 0, 0, 0)), Box.INSTRUMENT + 1);
        Run run = Run.of(Box.instrument(Check.row(2, 32, 0, 0, 0, 1)));
        Check.due("the last truth of 32", run.gate(0, 31), 1);
        Check.due("the one ahead of it", run.gate(0, 30), 0);
    }

    private static void swells() {
        Document.says("a SWELL: 1 to 16 reals of 4 bytes from 0 to 1;");
        for (int size : new int[] {1, 2, 15, 16}) {
            Run run = Run.of("swell 3 " + Texts.numbers(size) + "; order 0;");
            Check.due("reals", run.instrument(3, 3), size);
            for (int i = 0; i < size; i++) {
                Check.due("real " + i + " of " + size, run.swell(3, i), Texts.bits((i + 1) / 64f));
            }
            Check.due("no real behind the last one", run.swell(3, size), -1);
            Check.due("no real ahead of the first one", run.swell(3, -1), -1);
        }
        Run run = Run.of("swell 3 0 64; order 0;");
        Check.due("the least real", run.swell(3, 0), 0);
        Check.due("the largest real", run.swell(3, 1), Texts.bits(1f));
        Texts.fault(2, "swell 3 |;");
        Texts.fault(5, "swell 3 " + Texts.times("0 ", 16) + "|0;");
        Box.fault("no reals", Box.instrument(Check.row(4, 0)), Box.INSTRUMENT + 1);
        Box.fault("17 reals", Box.instrument(Check.row(4, 17), new byte[68]), Box.INSTRUMENT + 1);
        run = Run.of(Box.instrument(Check.row(4, 16), new byte[60], Check.big(Texts.bits(1f), 4)));
        Check.due("the last real of 16", run.swell(0, 15), Texts.bits(1f));
        Check.due("the one ahead of it", run.swell(0, 14), 0);
    }

    private static void loops() {
        Document.says("a LOOP: from cell A on, ahead of cell B, 0 <= A < B <= 64.");
        for (int[] loop : new int[][] {{0, 1}, {0, 64}, {63, 64}, {62, 63}, {31, 32}}) {
            Run run = Run.of("loop 3 " + loop[0] + " " + loop[1] + "; order 0;");
            Check.due("A", run.instrument(3, 4), loop[0]);
            Check.due("B", run.instrument(3, 5), loop[1]);
            run = Run.of(Box.instrument(Check.row(8, loop[0], loop[1])));
            Check.due("A of a container", run.instrument(0, 4), loop[0]);
            Check.due("B of a container", run.instrument(0, 5), loop[1]);
        }
        Texts.fault(3, "loop 3 |-1 1;");
        Texts.fault(3, "loop 3 |64 65;");
        for (int[] loop : new int[][] {{0, 0}, {0, 65}, {63, 63}, {63, 65}, {63, 62}, {5, -1}, {5, 4}, {5, 5}}) {
            Texts.fault(3, "loop 3 " + loop[0] + " |" + loop[1] + ";");
            Box.fault("B " + loop[1], Box.instrument(Check.row(8, loop[0], loop[1])), Box.INSTRUMENT + 2);
        }
        Box.fault("A 64", Box.instrument(Check.row(8, 64, 65)), Box.INSTRUMENT + 1);
        Box.fault("A 255", Box.instrument(Check.row(8, 255, 64)), Box.INSTRUMENT + 1);
        String wave = "wave 0 byte 1 2 3 4 5; part 0 48 0 none 0; order 0; loop 0 ";
        Run.played(wave + "1 3;", 2).framesAre("from A on, ahead of B", 0, 256, 512, 768, 512, 768, 512, 768, 512);
        Run.played(wave + "0 1;", 2).framesAre("one cell", 0, 256, 256, 256, 256, 256, 256, 256, 256);
        Run.played(wave + "4 5;", 2).framesAre("the last cell", 0, 256, 512, 768, 1024, 1280, 1280, 1280, 1280);
    }

    private static void rows() {
        Document.says("A PART may be there: 1 to 32 ROWS of 0 to 4 NOTES, the first one of voice 0, and so on.");
        String note = "-1 0 none 0";
        Run run = Run.of("part 2 ; order 2;");
        Check.due("one row", run.play(64), 6);
        Check.due("it is there", run.look(7), 0);
        run = Run.of("part 2 -1 -1 speed 1 " + Texts.times(".", 30) + ". " + note + "; order 2;");
        Check.due("32 rows", run.play(31), 31);
        run.at("the last row", 0, 31, 0, 0);
        Check.due("32 rows", run.play(64), 1);
        Check.due("the last row's note", run.voice(0, 0), 0);
        run.at("behind it", 1, 0, 0, 1);
        Texts.fault(5, "part 2 " + Texts.times(".", 32) + "|;");
        Texts.fault(5, "part 2 " + Texts.times(".", 32) + "|" + note + ";");
        Box.fault("33 rows", Box.part(Check.row(33), new byte[33]), Box.PART);
        Check.due("32 rows of a container", Run.of(Box.part(Check.row(32), new byte[32])).play(64), 64);
        for (int notes = 0; notes <= 4; notes++) {
            StringBuilder row = new StringBuilder();
            for (int v = 0; v < notes; v++) {
                row.append(v == 0 ? "" : ", ").append("-1 ").append(v + 5).append(" none 0");
            }
            run = Run.played("part 2 " + row + "; order 2;", 1);
            for (int v = 0; v < 4; v++) {
                Check.due("voice " + v + " of " + notes, run.voice(v, 0), v < notes ? v + 5 : -1);
            }
        }
        Texts.fault(5, "part 2 " + Texts.times(note + ",", 4) + "|" + note + ";");
        Texts.fault(5, "part 2 . " + Texts.times(note + ",", 4) + "|" + note + ";");
        byte[] one = Box.note(-1, 0, 0, 0);
        Run.played(Box.part(Check.row(1, 4), one, one, one, one), 1).voiceIs("4 notes of a container", 3, 0);
        Box.fault("5 notes", Box.part(Check.row(1, 5), one, one, one, one, one), Box.PART + 1);
    }

    private static void notes() {
        Document.says("A NOTE has a PITCH (0 .. 95, -1 none, -2 off), an INSTRUMENT (or -1), an EFFECT (0 .. 25) and an"
            + " ARGUMENT (an int).");
        for (int pitch : new int[] {-2, -1, 0, 95}) {
            Run run = Run.of("part 0 " + pitch + " 0 none 0; order 0;");
            run.pack();
            Check.due("pitch " + pitch, run.packed(Box.PART + 2), pitch + 2);
        }
        Texts.fault(3, "part 0 |-3 0 none 0;");
        Texts.fault(3, "part 0 |96 0 none 0;");
        for (int k : new int[] {-1, 0, 15}) {
            Run run = Run.played("part 0 -1 " + k + " none 0; order 0;", 1);
            Check.due("instrument " + k, run.voice(0, 0), k);
        }
        Texts.fault(3, "part 0 0 |-2 none 0;");
        Texts.fault(3, "part 0 0 |16 none 0;");
        for (int effect = 0; effect < 26; effect++) {
            Run run = Run.of("part 0 -1 -1 " + Texts.EFFECTS[effect] + " 7; order 0;");
            run.pack();
            Check.due("effect " + Texts.EFFECTS[effect], run.packed(Box.PART + 4), effect);
        }
        Texts.fault(2, "part 0 0 0 |wave 0;");
        Box.fault("effect 26", Box.part(Check.row(1, 1), Box.note(0, 0, 26, 0)), Box.PART + 4);
        int[] arguments = {0, -1, 255, 256, 999999999, -999999999, Integer.MAX_VALUE, Integer.MIN_VALUE};
        for (int a : arguments) {
            Run run = Run.of(Box.part(Check.row(1, 1), Box.note(-1, -1, 0, a)));
            run.pack();
            for (int i = 0; i < 4; i++) {
                Check.due("argument " + a, run.packed(Box.PART + 5 + i), a >> 24 - 8 * i & 255);
            }
        }
        for (int a : new int[] {999999999, -999999999}) {
            Run run = Run.played("wave 0 int 0; part 0 -1 0 set " + a + "; order 0;", 1);
            Check.due("argument " + a, run.cell(0, 0), a);
        }
    }

    private static void order() {
        Document.says("The ORDER: 1 to 32 numbers of PARTS.");
        for (int size : new int[] {1, 2, 31, 32}) {
            Run run = Run.of("part 0 -1 -1 speed 1; part 9 -1 -1 speed 2; order " + Texts.times("0 ", size - 1) + "9;");
            Check.due("how long it is", run.look(9), size);
            Check.due("ticks of " + size, run.play(64), size + 1);
            run.at("behind the last place", size, 0, 0, 1);
            byte[] places = Check.join(Check.row(size), new byte[size]);
            Check.due("of a container", Run.of(Box.of(Box.NOTHING, Box.NOTHING, places)).look(9), size);
        }
        Texts.fault(2, "order |;");
        Texts.fault(5, "order " + Texts.times("0 ", 32) + "|0;");
        Box.fault("no number", Box.of(Box.NOTHING, Box.NOTHING, Check.row(0)), 34);
        Box.fault("33 numbers", Box.of(Box.NOTHING, Box.NOTHING, Check.join(Check.row(33), new byte[33])), 34);
        Run run = Run.of("order 15 0; part 15;");
        run.play(6);
        Check.due("part 15", run.look(7), 0);
        Texts.fault(3, "order 15 |16;");
        Texts.fault(3, "order 0 |-1;");
        Check.due("15 of a container", Run.of(Box.of(Box.NOTHING, Box.NOTHING, Check.row(1, 15))).look(9), 1);
        Box.fault("16 of a container", Box.of(Box.NOTHING, Box.NOTHING, Check.row(1, 16)), 35);
    }

    private static void putWholes() {
        Document.says("A number v PUT to a cell of a KIND: its lowest bytes; reals: v / 256 as a real of that width (the"
            + " nearest one; of two as near the even one: so with all that reals are here).");
        int[] told = {0, 1, -1, 127, 128, -128, -129, 255, 256, -256, 32767, 32768, -32768, -32769, 65535, 65536, -65536,
            999999999, -999999999};
        int[] ends = {Integer.MAX_VALUE, Integer.MIN_VALUE};
        for (int kind = 0; kind < 5; kind++) {
            StringBuilder text = new StringBuilder("order 0; wave 0 " + Texts.KINDS[kind] + " ");
            long[] due = new long[told.length];
            for (int i = 0; i < told.length; i++) {
                text.append(told[i]).append(' ');
                due[i] = Texts.lowest(kind, told[i]);
            }
            Run.of(text + ";").cellsAre("of a text", 0, due);
            for (int v : ends) {
                setCell(kind, v, Texts.lowest(kind, v));
            }
        }
        Run.of("wave 0 byte 128 -129 256; order 0;").cellsAre("1 byte", 0, -128, 127, 0);
        Run.of("wave 0 short 32768 -32769 65536; order 0;").cellsAre("2 bytes", 0, -32768, 32767, 0);
        Run.of("wave 0 char -1 65535 65536; order 0;").cellsAre("2 bytes without sign", 0, 65535, 65535, 0);
    }

    private static void setCell(int kind, int v, long due) {
        byte[] wave = Check.join(Check.row(1, kind, 1), new byte[Texts.WIDTHS[kind]]);
        Run run = Run.played(Box.of(wave, Box.rows(Box.note(-1, 0, 11, v)), Box.ORDER), 1);
        Check.due("set " + v + " in kind " + kind, run.cell(0, 0), due);
    }

    /** Numbers of more digits than a real of 4 bytes has: the nearest one, of two as near the even one. */
    private static void putReals() {
        int[][] narrow = {
            {16777215, 16777215}, {16777217, 16777216}, {16777218, 16777218}, {16777219, 16777220},
            {33554434, 33554432}, {33554435, 33554436}, {33554438, 33554440}, {-16777217, -16777216},
            {-16777219, -16777220}, {200000007, 200000000}, {200000008, 200000000}, {200000009, 200000016},
            {200000024, 200000032}, {1, 1}, {-1, -1}, {256, 256}, {0, 0}, {-0, 0},
        };
        for (int[] row : narrow) {
            long due = Texts.bits((float) (row[1] / 256.0));
            Run.of("wave 0 float " + row[0] + "; order 0;").cellsAre("float " + row[0], 0, due);
            setCell(5, row[0], due);
            Run.of("wave 0 double " + row[0] + "; order 0;").cellsAre("double", 0, Texts.bits(row[0] / 256.0));
            setCell(6, row[0], Texts.bits(row[0] / 256.0));
        }
    }

    /** Acts whose exact answer lies between two reals. */
    private static void nearest() {
        byte[][] olds = {
            Check.big(Texts.bits(16777216 / 256f), 4), Check.big(Texts.bits(16777218 / 256f), 4),
            Check.big(Texts.bits(8388609 / 256f), 4), Check.big(Texts.bits(8388611 / 256f), 4),
            Check.big(1, 4), Check.big(3, 4), Check.big(5, 4), Check.big(7, 4),
        };
        real(5, olds[0], 12, 1, Texts.bits(65536f));
        real(5, olds[1], 12, 1, Texts.bits(65536 + 4 / 256f));
        real(5, olds[2], 13, 6, Texts.bits(50331656 / 256f));
        real(5, olds[3], 13, 6, Texts.bits(50331664 / 256f));
        real(5, olds[4], 14, 1, 0);
        real(5, olds[5], 14, 1, 2);
        real(5, olds[6], 14, 1, 2);
        real(5, olds[7], 14, 1, 4);
        for (long bits : new long[] {1, 3, 5, 7}) {
            real(6, Check.big(bits, 8), 14, 1, bits / 2 + (bits % 4 == 3 ? 1 : 0));
        }
        double odd = 4096 + Math.ulp(4096.0);
        real(6, Check.big(Texts.bits(odd), 8), 13, 6, Texts.bits(24576 + 2 * Math.ulp(24576.0)));
        double next = 4096 + 3 * Math.ulp(4096.0);
        real(6, Check.big(Texts.bits(next), 8), 13, 6, Texts.bits(24576 + 4 * Math.ulp(24576.0)));
        real(6, Check.big(Texts.bits(Math.ulp(1.0) / 2), 8), 16, 0, Texts.bits(1.0));
        real(6, Check.big(Texts.bits(Math.ulp(1.0) * 1.5), 8), 16, 0, Texts.bits(1 + 2 * Math.ulp(1.0)));
    }

    private static void real(int kind, byte[] old, int effect, int a, long due) {
        byte[] wave = Check.join(Check.row(1, kind, 1), old);
        Run run = Run.played(Box.of(wave, Box.rows(Box.note(-1, 0, effect, a)), Box.ORDER), 1);
        Check.due(Texts.EFFECTS[effect] + " " + a + " in kind " + kind, run.cell(0, 0), due);
    }

    private static void held() {
        Document.says("Reals of WAVES are HELD from -1000000 to 1000000: what an act makes beyond is that end.");
        long[][] end = {{Texts.bits(1000000f), Texts.bits(-1000000f)}, {Texts.bits(1000000.0), Texts.bits(-1000000.0)}};
        long[][] near = {{Texts.bits(999999f), Texts.bits(-999999f)}, {Texts.bits(999999.0), Texts.bits(-999999.0)}};
        for (int kind = 5; kind < 7; kind++) {
            long most = end[kind - 5][0];
            long least = end[kind - 5][1];
            int width = Texts.WIDTHS[kind];
            Run.of("wave 0 " + Texts.KINDS[kind] + " 255999744 256000000 256000001 999999999 -255999744 -256000000"
                + " -256000001 -999999999; order 0;").cellsAre("of a text", 0, near[kind - 5][0], most, most, most,
                near[kind - 5][1], least, least, least);
            byte[][] olds = {Check.big(most, width), Check.big(least, width), Check.big(near[kind - 5][0], width),
                Check.big(near[kind - 5][1], width)};
            long[] dues = {most, least};
            for (int s = 0; s < 2; s++) {
                int sign = 1 - 2 * s;
                setCell(kind, sign * 255999744, near[kind - 5][s]);
                setCell(kind, sign * 256000000, dues[s]);
                setCell(kind, sign * 256000064, dues[s]);
                setCell(kind, s == 0 ? Integer.MAX_VALUE : Integer.MIN_VALUE, dues[s]);
                real(kind, olds[s], 12, sign * 256, dues[s]);
                real(kind, olds[2 + s], 12, sign * 256, dues[s]);
                real(kind, olds[2 + s], 12, sign * 512, dues[s]);
                real(kind, olds[s], 13, 2, dues[s]);
                real(kind, olds[s], 13, 1, dues[s]);
                real(kind, olds[s], 13, -1, dues[1 - s]);
                real(kind, olds[s], 13, Integer.MAX_VALUE, dues[s]);
                real(kind, olds[s], 13, Integer.MIN_VALUE, dues[1 - s]);
                real(kind, olds[s], 14, 0, dues[s]);
                real(kind, olds[s], 15, 0, dues[1 - s]);
                real(kind, olds[s], 16 + s, 0, dues[s]);
                real(kind, olds[2 + s], 16 + s, 0, dues[s]);
                real(kind, olds[s], 17 - s, 0, near[kind - 5][s]);
            }
        }
        real(6, Check.big(Texts.bits(999999.5), 8), 16, 0, Texts.bits(1000000.0));
        real(6, Check.big(Texts.bits(-999999.5), 8), 17, 0, Texts.bits(-1000000.0));
        Run.of("wave 0 double 255999999 -255999999; order 0;").cellsAre("just within", 0,
            Texts.bits(255999999 / 256.0), Texts.bits(-255999999 / 256.0));
    }
}
