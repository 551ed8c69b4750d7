import java.util.Arrays;

/** Promise 4 with containers, and promises 16 to 18: pack, packed, take. */
public final class ContainerTest {
    public static void main(String[] args) {
        layout();
        roundTrip();
        faults();
        realsThatMayBe();
        tooEarly();
        taking();
        largest();
        Check.finish();
    }

    private static final byte[] HEAD = Check.row(84, 77);
    private static final byte[] NO_PARTS = new byte[16];
    private static final byte[] ORDER = Check.row(1, 0);

    /** A container whose first INSTRUMENT is told, the others and all PARTS missing. */
    private static byte[] withInstrument(byte[] instrument) {
        return Check.join(HEAD, instrument, new byte[15], NO_PARTS, ORDER);
    }

    /** A container whose first PART is told, and no INSTRUMENT. */
    private static byte[] withPart(byte[] part) {
        return Check.join(HEAD, new byte[16], part, new byte[15], ORDER);
    }

    private static void fault(String what, byte[] container, int place) {
        TrackerHouse house = Check.house("order 0;");
        Check.due(what, Check.read(house, container), 7 + 16 * place);
        Check.due(what + ": no module", house.look(9), -1);
        Check.due(what + ": no tape", house.look(8), 0);
    }

    private static void layout() {
        TrackerHouse house = Check.house("wave 0 short -2 515; gate 0 1 0 0 0 0 0 0 0 1 1; swell 0 64 32; loop 0 1 2;"
            + "wave 1 float -128; wave 2 double -128; wave 3 char 65535; wave 4 byte -1; wave 5 int -2; wave 6 long -3;"
            + "gate 15 0 0 0 0 0 0 0 1; part 1 . -2 -1 none -5, 95 15 swap 258; order 1 15 0;");
        byte[] due = Check.join(HEAD,
            Check.row(15, 1, 2, 255, 254, 2, 3, 10, 128, 192, 2, 0x3F, 0x80, 0, 0, 0x3F, 0, 0, 0, 1, 2),
            Check.row(1, 5, 1, 0xBF, 0, 0, 0),
            Check.row(1, 6, 1, 0xBF, 0xE0, 0, 0, 0, 0, 0, 0),
            Check.row(1, 2, 1, 255, 255),
            Check.row(1, 0, 1, 255),
            Check.row(1, 3, 1, 255, 255, 255, 254),
            Check.row(1, 4, 1, 255, 255, 255, 255, 255, 255, 255, 253),
            new byte[8], Check.row(2, 8, 1),
            Check.row(0, 2, 0, 2, 0, 0, 0, 255, 255, 255, 251, 97, 16, 25, 0, 0, 1, 2), new byte[14],
            Check.row(3, 1, 15, 0));
        Check.due("pack", house.pack(), due.length);
        for (int i = 0; i < due.length; i++) {
            Check.due("packed " + i, house.packed(i), due[i] & 255);
        }
        Check.due("packed beyond", house.packed(due.length), -1);
        Check.due("packed below", house.packed(-1), -1);
        Check.due("packed least", house.packed(Integer.MIN_VALUE), -1);
        Check.due("packed most", house.packed(Integer.MAX_VALUE), -1);
        Check.due("same", Arrays.equals(Check.packed(Check.house(due)), due), true);
    }

    private static void roundTrip() {
        byte[] container = Check.join(HEAD,
            Check.row(15, 6, 2), Check.big(Double.doubleToLongBits(-1000000.0), 8), Check.big(Long.MIN_VALUE, 8),
            Check.row(32, 0x81, 0x82, 0x83, 0x84, 16), new byte[64], Check.row(63, 64),
            Check.row(1, 5, 3), Check.big(0x80000000L, 4), Check.big(1, 4), Check.big(0xC9742400L, 4), new byte[14],
            Check.row(32), Check.join(new byte[31], Check.row(4), new byte[28]), new byte[15], Check.row(1, 15));
        TrackerHouse house = Check.house(container);
        Check.due("double", Check.cell(house, 0, 0), Double.doubleToLongBits(-1000000.0));
        Check.due("-0", Check.cell(house, 0, 1), Long.MIN_VALUE);
        Check.due("-0 of 4 bytes", Check.cell(house, 1, 0), Integer.MIN_VALUE);
        Check.due("least of 4 bytes", Check.cell(house, 1, 1), 1);
        Check.due("float", Check.cell(house, 1, 2), Float.floatToIntBits(-1000000f));
        Check.due("truth 0", house.gate(0, 0), 1);
        Check.due("truth 7", house.gate(0, 7), 1);
        Check.due("truth 6", house.gate(0, 6), 0);
        Check.due("truth 29", house.gate(0, 29), 1);
        Check.due("same", Arrays.equals(Check.packed(house), container), true);
        // nothing of it stays in the next one
        byte[] empty = Check.join(HEAD, new byte[16], NO_PARTS, ORDER);
        Check.due("read", Check.read(house, empty), 0);
        Check.due("empty", Arrays.equals(Check.packed(house), empty), true);
        Check.due("no wave", house.instrument(0, 0), -1);
    }

    private static void faults() {
        fault("nothing", new byte[0], 0);
        fault("first", Check.row(83, 77), 0);
        fault("second", Check.row(84, 78), 1);
        fault("what an instrument has", withInstrument(Check.row(16)), 2);
        fault("kind", withInstrument(Check.row(1, 7, 1, 1)), 3);
        fault("no cells", withInstrument(Check.row(1, 0, 0)), 4);
        fault("65 cells", withInstrument(Check.join(Check.row(1, 0, 65), new byte[65])), 4);
        fault("no truths", withInstrument(Check.row(2, 0)), 3);
        fault("33 truths", withInstrument(Check.join(Check.row(2, 33), new byte[5])), 3);
        fault("a 1 behind", withInstrument(Check.row(2, 7, 1)), 4);
        fault("a 1 behind later", withInstrument(Check.row(2, 9, 255, 64)), 5);
        fault("no reals", withInstrument(Check.row(4, 0)), 3);
        fault("17 reals", withInstrument(Check.join(Check.row(4, 17), new byte[68])), 3);
        fault("A", withInstrument(Check.row(8, 64, 65)), 3);
        fault("B", withInstrument(Check.row(8, 5, 5)), 4);
        fault("B", withInstrument(Check.row(8, 5, 65)), 4);
        fault("rows", withPart(Check.row(33)), 18);
        fault("notes", withPart(Check.row(1, 5)), 19);
        fault("pitch", withPart(Check.row(1, 1, 98, 0, 0, 0, 0, 0, 0)), 20);
        fault("instrument", withPart(Check.row(1, 1, 97, 17, 0, 0, 0, 0, 0)), 21);
        fault("effect", withPart(Check.row(1, 1, 97, 16, 26, 0, 0, 0, 0)), 22);
        Check.house(withPart(Check.row(1, 1, 97, 16, 25, 255, 255, 255, 255)));
        byte[] none = Check.join(HEAD, new byte[32]);
        fault("no order", none, 34);
        fault("no number", Check.join(none, Check.row(0)), 34);
        fault("33 numbers", Check.join(none, Check.row(33), new byte[33]), 34);
        fault("no part's number", Check.join(none, Check.row(2, 0, 16)), 36);
        fault("a byte behind", Check.join(none, ORDER, Check.row(0)), 36);
    }

    private static byte[] real(int kind, long bits) {
        return withInstrument(Check.join(Check.row(1, kind, 2), new byte[kind == 5 ? 4 : 8],
            Check.big(bits, kind == 5 ? 4 : 8)));
    }

    private static byte[] swell(long bits) {
        return withInstrument(Check.join(Check.row(4, 2), new byte[4], Check.big(bits, 4)));
    }

    private static void realsThatMayBe() {
        float[] narrow = {Float.NaN, Float.POSITIVE_INFINITY, Float.NEGATIVE_INFINITY, Math.nextUp(1000000f),
            -Math.nextUp(1000000f), Float.MAX_VALUE};
        for (float bad : narrow) {
            fault("float " + bad, real(5, Float.floatToRawIntBits(bad)), 9);
            fault("double " + bad, real(6, Double.doubleToRawLongBits(bad)), 13);
            fault("swell " + bad, swell(Float.floatToRawIntBits(bad)), 8);
        }
        fault("float of no number", real(5, 0xFFFFFFFFL), 9);
        fault("float of no number", real(5, 0x7F800001L), 9);
        fault("double of no number", real(6, -1L), 13);
        fault("double beyond", real(6, Double.doubleToLongBits(Math.nextUp(1000000.0))), 13);
        fault("double beyond", real(6, Double.doubleToLongBits(-Math.nextUp(1000000.0))), 13);
        fault("swell beyond", swell(Float.floatToIntBits(Math.nextUp(1f))), 8);
        fault("swell below", swell(0x80000001L), 8);
        fault("swell below", swell(Float.floatToIntBits(-1f)), 8);
        for (float good : new float[] {0, -0f, 1, -1, 1000000, -1000000, Float.MIN_VALUE, -Float.MIN_VALUE}) {
            TrackerHouse house = Check.house(real(5, Float.floatToIntBits(good)));
            Check.due("float " + good, Check.cell(house, 0, 1), Float.floatToIntBits(good));
            house = Check.house(real(6, Double.doubleToLongBits(good)));
            Check.due("double " + good, Check.cell(house, 0, 1), Double.doubleToLongBits(good));
        }
        for (float good : new float[] {0, -0f, 1, Float.MIN_VALUE, 0.3f}) {
            TrackerHouse house = Check.house(swell(Float.floatToIntBits(good)));
            Check.due("swell " + good, house.swell(0, 1), Float.floatToIntBits(good));
        }
    }

    /** What ends anywhere within a container has its fault at its length. */
    private static void tooEarly() {
        TrackerHouse full = Check.house("wave 0 double 1 2; gate 0 1 1 1; swell 0 5; loop 0 0 1; wave 1 float 1;"
            + "wave 2 int 9; part 0 5 5 none 77; order 0 1;");
        byte[] container = Check.packed(full);
        for (int length = 0; length < container.length; length++) {
            TrackerHouse house = new TrackerHouse();
            Check.due("length " + length, Check.read(house, Arrays.copyOf(container, length)), 7 + 16 * length);
        }
        // a real that is not whole yet is no real that can't be
        TrackerHouse house = new TrackerHouse();
        Check.due("cut real", Check.read(house, Check.join(HEAD, Check.row(1, 5, 1, 255, 255))), 7 + 16 * 7);
        house = new TrackerHouse();
        Check.due("cut truths", Check.read(house, Check.join(HEAD, Check.row(2, 7))), 7 + 16 * 4);
    }

    private static void taking() {
        TrackerHouse house = Check.house("wave 0 byte 5 6 7; wave 1 byte 9; part 0 0 0 set 77, 0 1 lend 0; order 0;");
        Check.due("nothing to take", house.take(), false);
        Check.due("as it was", house.look(9), 1);
        Check.due("pack", house.pack() > 0, true);
        Check.due("play", Check.play(house, 2), 2);
        Check.due("set", Check.cell(house, 0, 0), 77);
        Check.due("lent", house.instrument(1, 6), 0);
        Check.due("take", house.take(), true);
        Check.due("as packed", Check.cell(house, 0, 0), 5);
        Check.due("not lent", house.instrument(1, 6), 1);
        Check.due("beginning", house.look(2), 0);
        Check.due("beginning", house.look(6), 0);
        Check.due("beginning", house.voice(0, 0), -1);
        Check.due("play", Check.play(house, 1), 1);
        Check.due("pack as it is now", house.pack() > 0, true);
        Check.due("fault", Check.read(house, "?"), 1);
        Check.due("no pack without a module", house.pack(), -1);
        Check.due("packed stays", house.packed(0), 84);
        Check.due("take without a module", house.take(), true);
        Check.due("cells of a lent wave", Check.cell(house, 1, 0), 77);
        Check.due("are its own", house.instrument(1, 6), 1);
        Check.due("cells", house.instrument(1, 1), 3);
        Check.due("take again", house.take(), true);
        house.feed(1, 2, 3, 4, 5);
        Check.due("take leaves the tape", house.take(), true);
        Check.due("tape", house.look(8), 20);
    }

    /** A text of less than 6000 bytes whose container has more; it is taken whole. */
    private static void largest() {
        StringBuilder text = new StringBuilder("order 15;");
        for (int k = 0; k < 16; k++) {
            text.append("wave ").append(k).append(" double ").append(Check.repeat("1 ", 64)).append(";");
        }
        for (int k = 0; k < 16; k++) {
            text.append("part ").append(k).append(" ").append(Check.repeat(".", 31)).append(";");
        }
        TrackerHouse house = Check.house(text.toString());
        int size = 2 + 16 * (3 + 512) + 16 * 33 + 2;
        Check.due("pack", house.pack(), size);
        Check.due("last", house.packed(size - 1), 15);
        Check.due("beyond", house.packed(size), -1);
        Check.due("take", house.take(), true);
        Check.due("cell", Check.cell(house, 15, 63), Double.doubleToLongBits(1 / 256.0));
        Check.due("pack again", house.pack(), size);
    }
}
