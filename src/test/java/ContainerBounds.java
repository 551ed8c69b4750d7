import java.util.Arrays;

/** Bounds of containers: each byte that can't stand, one that ends too early or too late. */
final class ContainerBounds {
    private static final int LEAST = Integer.MIN_VALUE;

    private ContainerBounds() {
    }

    static void test() {
        head();
        flags();
        waves();
        truths();
        swellsAndLoops();
        parts();
        order();
        Document.says("As a TAPE it is READ likewise: FAULT 7 at the first byte that can't stand (of a real that is none or not"
            + " from -1000000 to 1000000, or of a SWELL not from 0 to 1: at its first byte; -0 may be; at the length, if it ends"
            + " too early; a byte behind its end).");
        firstFault();
        reals();
        swellReals();
        tooEarly();
        tooLate();
    }

    /** Every value of one byte: those from the least to the most can stand, the others are told at their place. */
    private static void field(String what, byte[] container, int place, int least, int most) {
        for (int b = 0; b < 256; b++) {
            byte[] changed = container.clone();
            changed[place] = (byte) b;
            Run run = new Run();
            run.feed(changed);
            int answer = run.read(true);
            if (b < least || b > most) {
                Check.due(what + " " + b, answer, 7 + 16 * place);
            } else {
                Check.due(what + " " + b + " can stand", answer == 0 || answer % 16 == 7 && answer / 16 > place, true);
            }
        }
        Check.due(what + " is good", Run.of(container).look(9) > 0, true);
    }

    /** The bytes that a house packs are those that it read. */
    private static void same(String what, byte[] container) {
        Run run = Run.of(container);
        Check.due(what + ": how many bytes", run.pack(), container.length);
        for (int i = 0; i < container.length && run.calls() < Run.MOST_CALLS - 2; i++) {
            Check.due(what + ": byte " + i, run.packed(i), container[i] & 255);
        }
    }

    private static void head() {
        Document.says("==== 4. CONTAINERS: 84, 77;");
        byte[] least = Box.of(Box.NOTHING, Box.NOTHING, Box.ORDER);
        same("the least container", least);
        field("the first byte", least, 0, 84, 84);
        field("the second byte", least, 1, 77, 77);
    }

    private static void flags() {
        Document.says("for each INSTRUMENT a byte: 1 with a WAVE, 2 a GATE, 4 a SWELL, 8 a LOOP, together;");
        for (int has = 0; has < 16; has++) {
            byte[] instrument = Check.row(has);
            instrument = (has & 1) == 0 ? instrument : Check.join(instrument, Check.row(0, 1, 5));
            instrument = (has & 2) == 0 ? instrument : Check.join(instrument, Check.row(1, 128));
            instrument = (has & 4) == 0 ? instrument : Check.join(instrument, Check.row(1, 0, 0, 0, 0));
            instrument = (has & 8) == 0 ? instrument : Check.join(instrument, Check.row(3, 9));
            for (int k : new int[] {0, 15}) {
                byte[] container = Check.join(Box.HEAD, new byte[k], instrument, new byte[15 - k], new byte[16], Box.ORDER);
                Run run = Run.of(container);
                int[] due = {(has & 1) - 1, (has & 1) == 0 ? -1 : 1, (has & 2) == 0 ? -1 : 1, (has & 4) == 0 ? -1 : 1,
                    (has & 8) == 0 ? -1 : 3, (has & 8) == 0 ? -1 : 9, (has & 1) == 0 ? -1 : k};
                for (int what = 0; what < 7; what++) {
                    Check.due("instrument(" + k + ", " + what + ") with " + has, run.instrument(k, what), due[what]);
                }
                same("instrument " + k + " with " + has, container);
            }
        }
        byte[] least = Box.of(Box.NOTHING, Box.NOTHING, Box.ORDER);
        field("instrument 0", least, 2, 0, 15);
        field("instrument 15", least, 17, 0, 15);
    }

    private static void waves() {
        Document.says("then these, in this order: KIND, how many CELLS, each by its bytes, the highest first (reals: their"
            + " bits);");
        for (int kind = 0; kind < 7; kind++) {
            int width = Texts.WIDTHS[kind];
            byte[] cells = new byte[2 * width];
            for (int i = 0; i < cells.length; i++) {
                cells[i] = (byte) (i + 1);
            }
            byte[] container = Box.instrument(Check.row(1, kind, 2), cells);
            field("kind", container, Box.INSTRUMENT + 1, 0, 6);
            field("how many cells", container, Box.INSTRUMENT + 2, 1, 64);
            same("kind " + kind, container);
            long first = 0;
            for (int i = 0; i < width; i++) {
                first = first << 8 | i + 1;
            }
            Check.due("the highest first", Run.of(container).cell(0, 0), first);
            same("64 cells", Box.instrument(Check.row(1, kind, 64), new byte[63 * width], Arrays.copyOf(cells, width)));
        }
    }

    private static void truths() {
        Document.says("how many truths, and bytes, 8 a byte, the first one highest, 0s behind;");
        for (int size = 1; size <= 32; size++) {
            int eights = (size + 7) / 8;
            byte[] full = new byte[eights];
            Arrays.fill(full, (byte) 255);
            int unused = 8 * eights - size;
            full[eights - 1] = (byte) (255 << unused);
            byte[] container = Box.instrument(Check.row(2, size), full);
            same(size + " truths that are", container);
            Run run = Run.of(container);
            for (int i = 0; i < size; i++) {
                Check.due("truth " + i + " of " + size, run.gate(0, i), 1);
            }
            Check.due("no truth behind the last one", run.gate(0, size), -1);
            byte[] last = new byte[eights];
            last[eights - 1] = (byte) (1 << unused);
            same(size + " truths, the last of which is", Box.instrument(Check.row(2, size), last));
            same(size + " truths that are not", Box.instrument(Check.row(2, size), new byte[eights]));
            run = Run.of(Box.instrument(Check.row(2, size), last));
            for (int i = 0; i < size; i++) {
                Check.due("truth " + i + " of " + size, run.gate(0, i), i == size - 1 ? 1 : 0);
            }
            for (int bit = 0; bit < unused; bit++) {
                byte[] bad = new byte[eights];
                bad[eights - 1] = (byte) (1 << bit);
                Box.fault("a 1 behind " + size, Box.instrument(Check.row(2, size), bad), Box.INSTRUMENT + 1 + eights);
            }
        }
        byte[] first = Box.instrument(Check.row(2, 9, 128, 0));
        Check.due("the first one highest", Run.of(first).gate(0, 0), 1);
        Check.due("the first one highest", Run.of(first).gate(0, 7), 0);
        field("how many truths", first, Box.INSTRUMENT + 1, 1, 32);
        field("truths", first, Box.INSTRUMENT + 2, 0, 255);
    }

    private static void swellsAndLoops() {
        Document.says("how many reals, 4 bytes each; A, B.");
        byte[] one = Check.big(Texts.bits(1f), 4);
        same("one real", Box.instrument(Check.row(4, 1), one));
        same("16 reals", Box.instrument(Check.row(4, 16), new byte[60], one));
        field("how many reals", Box.instrument(Check.row(4, 2), one, one), Box.INSTRUMENT + 1, 1, 16);
        for (int[] loop : new int[][] {{0, 1}, {0, 64}, {63, 64}, {20, 40}}) {
            byte[] container = Box.instrument(Check.row(8, loop[0], loop[1]));
            same("loop", container);
            field("A", container, Box.INSTRUMENT + 1, 0, 63);
            field("B", container, Box.INSTRUMENT + 2, loop[0] + 1, 64);
        }
    }

    private static void parts() {
        Document.says("Then for each PART how many ROWS (0: it is not there), each: how many NOTES, each PITCH + 2, INSTRUMENT +"
            + " 1, EFFECT, ARGUMENT (4 bytes, the highest first).");
        byte[] note = Box.note(95, 15, 25, 0x01020304);
        byte[] container = Box.part(Check.row(1, 1), note);
        same("a note", container);
        same("a note of nothing", Box.part(Check.row(1, 1), Box.note(-2, -1, 0, -1)));
        same("32 rows", Box.part(Check.row(32), new byte[31], Check.row(1), note));
        same("4 notes", Box.part(Check.row(1, 4), note, note, note, note));
        same("a row without notes", Box.part(Check.row(1, 0)));
        field("how many rows", container, Box.PART, 0, 32);
        field("how many notes", container, Box.PART + 1, 0, 4);
        field("pitch", container, Box.PART + 2, 0, 97);
        field("instrument", container, Box.PART + 3, 0, 16);
        field("effect", container, Box.PART + 4, 0, 25);
        for (int i = 0; i < 4; i++) {
            field("argument", container, Box.PART + 5 + i, 0, 255);
        }
        byte[] least = Box.of(Box.NOTHING, Box.NOTHING, Box.ORDER);
        field("part 15", least, 33, 0, 32);
        Run run = Run.of(least);
        run.play(1);
        run.eventsAre("no rows: it is not there", 64);
        run = Run.of(Box.part(Check.row(1, 0)));
        run.play(1);
        run.eventsAre("one row: it is there");
        byte[] last = Check.join(Box.HEAD, new byte[16], new byte[15], Box.rows(Box.note(-1, 7, 1, 9)), Check.row(1, 15));
        run = Run.of(last);
        run.play(1);
        run.voiceIs("part 15", 0, 7, 0, 0, 9);
        same("part 15", last);
    }

    private static void order() {
        Document.says("Then how many numbers the ORDER has, and these.");
        byte[] container = Box.of(Box.NOTHING, Box.NOTHING, Check.row(2, 3, 4));
        same("an order", container);
        field("how many numbers", container, 34, 1, 32);
        field("a number", container, 35, 0, 15);
        field("the last number", container, 36, 0, 15);
        byte[] full = new byte[33];
        full[0] = 32;
        full[32] = 15;
        same("32 numbers", Box.of(Box.NOTHING, Box.NOTHING, full));
        Check.due("32 numbers", Run.of(Box.of(Box.NOTHING, Box.NOTHING, full)).look(9), 32);
    }

    private static void firstFault() {
        byte[] container = Box.part(Check.row(33, 5), Box.note(96, 16, 26, 0));
        int[] good = {1, 1, 97, 16, 25};
        for (int i = 0; i < good.length; i++) {
            Box.fault("the first of " + (good.length - i), container, Box.PART + i);
            container[Box.PART + i] = (byte) good[i];
        }
        Check.due("none", Run.of(container).look(9), 1);
        Box.fault("an empty tape", new byte[0], 0);
        Run run = new Run();
        run.feed(Check.bytes("order 0;"));
        Check.due("a text", run.read(true), 7);
        run.feed(Box.of(Box.NOTHING, Box.NOTHING, Box.ORDER));
        Check.due("a container as a text", run.read(false), 1);
    }

    private static byte[] cell(int kind, long bits) {
        int width = Texts.WIDTHS[kind];
        return Box.instrument(Check.row(1, kind, 3), new byte[width], Check.big(bits, width), new byte[width]);
    }

    private static void reals() {
        int[] narrow = {0x49742400, 0x49742401, 0x7F7FFFFF, 0x7F800000, 0x7F800001, 0x7FC00000, 0x7FFFFFFF, 1, 0x00800000, 0,
            0x3F800000};
        for (int bits : narrow) {
            for (int sign = 0; sign < 2; sign++) {
                int signed = sign == 0 ? bits : bits | LEAST;
                float real = Float.intBitsToFloat(signed);
                if (real >= -1000000 && real <= 1000000) {
                    Check.due("float " + real, Run.of(cell(5, signed)).cell(0, 1), signed);
                    same("float " + real, cell(5, signed));
                } else {
                    Box.fault("float " + real, cell(5, signed), Box.INSTRUMENT + 3 + 4);
                }
            }
        }
        long[] wide = {Texts.bits(1000000.0), Texts.bits(Math.nextUp(1000000.0)), Texts.bits(Double.MAX_VALUE),
            Texts.bits(Double.POSITIVE_INFINITY), Texts.bits(Double.POSITIVE_INFINITY) + 1, Texts.bits(Double.NaN),
            Long.MAX_VALUE, 1, Texts.bits(Double.MIN_NORMAL), 0, Texts.bits(1.0), Texts.bits(1000000.0) + 0x100000000L};
        for (long bits : wide) {
            for (int sign = 0; sign < 2; sign++) {
                long signed = sign == 0 ? bits : bits | Long.MIN_VALUE;
                double real = Double.longBitsToDouble(signed);
                if (real >= -1000000 && real <= 1000000) {
                    Check.due("double " + real, Run.of(cell(6, signed)).cell(0, 1), signed);
                    same("double " + real, cell(6, signed));
                } else {
                    Box.fault("double " + real, cell(6, signed), Box.INSTRUMENT + 3 + 8);
                }
            }
        }
        // at the first and the last of 64 cells
        byte[] bad = Check.big(0x7FC00000, 4);
        Box.fault("the first cell", Box.instrument(Check.row(1, 5, 64), bad, new byte[63 * 4]), Box.INSTRUMENT + 3);
        Box.fault("the last cell", Box.instrument(Check.row(1, 5, 64), new byte[63 * 4], bad), Box.INSTRUMENT + 3 + 63 * 4);
    }

    private static void swellReals() {
        int[] all = {0, LEAST, 1, LEAST + 1, 0x3F800000, 0x3F800001, 0xBF800000, 0x3F7FFFFF, 0x7F800000, 0x7FC00000,
            0xFF800000, 0xFFC00000, 0x49742400, 0x40000000, 0x00800000, 0x80800000, 0x7FFFFFFF, -1};
        for (int bits : all) {
            float real = Float.intBitsToFloat(bits);
            byte[] container = Box.instrument(Check.row(4, 3), new byte[4], Check.big(bits, 4), new byte[4]);
            if (real >= 0 && real <= 1) {
                Check.due("swell " + real, Run.of(container).swell(0, 1), bits);
                same("swell " + real, container);
            } else {
                Box.fault("swell " + real, container, Box.INSTRUMENT + 2 + 4);
            }
        }
        byte[] bad = Check.big(0x3F800001, 4);
        // its bytes could begin a LOOP, which is to come behind it
        Box.fault("ahead of a loop", Box.instrument(Check.row(12, 1), bad, Check.row(63, 64)), Box.INSTRUMENT + 2);
        Box.fault("the first real", Box.instrument(Check.row(4, 16), bad, new byte[60]), Box.INSTRUMENT + 2);
        Box.fault("the last real", Box.instrument(Check.row(4, 16), new byte[60], bad), Box.INSTRUMENT + 2 + 60);
    }

    /** A container with all that there may be in one. */
    private static byte[] rich() {
        byte[] reals = Check.join(Check.row(15, 6, 2), Check.big(Texts.bits(0.5), 8), Check.big(Texts.bits(-1.0), 8),
            Check.row(9, 255, 128, 2), Check.big(Texts.bits(1f), 4), Check.big(Texts.bits(0.25f), 4), Check.row(0, 2));
        byte[] wholes = Check.row(1, 3, 2, 1, 2, 3, 4, 5, 6, 7, 8);
        byte[] rows = Check.join(Check.row(3, 1), Box.note(50, 0, 1, 77), Check.row(0, 2), Box.note(-1, 1, 16, 0),
            Box.note(0, -1, 0, -1));
        return Check.join(Box.HEAD, reals, wholes, new byte[13], Check.row(1, 5, 1, 0x3F, 0, 0, 0), rows, new byte[14],
            Check.row(1, 0), Check.row(3, 0, 1, 15));
    }

    private static void tooEarly() {
        byte[] rich = rich();
        same("all that there may be", rich);
        for (int length = 0; length < rich.length; length++) {
            Box.fault("length " + length, Arrays.copyOf(rich, length), length);
        }
        // within a real or truths whose bytes so far can't become good ones
        Box.fault("within a real", Check.join(Box.HEAD, Check.row(1, 5, 1, 0x3F, 0x80, 0)), 8);
        Box.fault("within a swell", Check.join(Box.HEAD, Check.row(4, 1, 0x3F, 0x80, 0)), 7);
        Box.fault("ahead of the truths", Check.join(Box.HEAD, Check.row(2, 9, 255)), 5);
        Box.fault("within an argument", Check.join(Box.HEAD, new byte[16], Check.row(1, 1, 0, 0, 0, 1, 2, 3)), 26);
        Box.fault("ahead of the order", Check.join(Box.HEAD, new byte[32]), 34);
        Box.fault("within the order", Check.join(Box.HEAD, new byte[32], Check.row(2, 0)), 36);
    }

    private static void tooLate() {
        byte[] least = Box.of(Box.NOTHING, Box.NOTHING, Box.ORDER);
        for (int b : new int[] {0, 1, 84, 255}) {
            Box.fault("a byte behind", Check.join(least, Check.row(b)), least.length);
            Box.fault("a byte behind", Check.join(rich(), Check.row(b)), rich().length);
        }
        Box.fault("many bytes behind", Check.join(least, new byte[5000]), least.length);
        Box.fault("two containers", Check.join(least, least), least.length);
        // a tape that is full: 6000 bytes are a container, or one byte too many
        byte[] notes = Check.row(1, 4);
        for (int v = 0; v < 4; v++) {
            notes = Check.join(notes, Box.note(-1, -1, 0, v));
        }
        byte[] part = Check.row(32);
        for (int r = 0; r < 32; r++) {
            part = Check.join(part, Arrays.copyOfRange(notes, 1, notes.length));
        }
        // six full PARTS, and a seventh of so many ROWS with and without NOTES that all are 6000 together
        byte[] all = Check.join(Box.HEAD, new byte[16]);
        for (int p = 0; p < 6; p++) {
            all = Check.join(all, part);
        }
        int left = 6000 - all.length - 9 - 33;
        int rows = left / 29;
        int spare = left - 1 - 29 * rows;
        byte[] seventh = Check.row(rows + spare);
        for (int r = 0; r < rows; r++) {
            seventh = Check.join(seventh, Arrays.copyOfRange(notes, 1, notes.length));
        }
        all = Check.join(all, seventh, new byte[spare], new byte[9], Check.row(32), new byte[32]);
        Check.due("bytes", all.length, 6000);
        Run run = Run.of(all);
        Check.due("a container of 6000 bytes", run.look(9), 32);
        Check.due("is packed to as many", run.pack(), 6000);
        Check.due("its last byte", run.packed(5999), 0);
        Check.due("no byte behind", run.packed(6000), -1);
        all[6000 - 33] = 31;
        Box.fault("one byte too many", all, 5999);
    }
}
