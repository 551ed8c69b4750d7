/** The 26 EFFECTS: what they change, and what they refuse. */
public final class EffectTest {
    public static void main(String[] args) {
        volumes();
        steps();
        cuts();
        agains();
        offs();
        wholeCells();
        cellsRefused();
        truths();
        swells();
        lending();
        losing();
        copying();
        swapping();
        largestArguments();
        Check.finish();
    }

    /** Plays rows of part 0, with a wave of its own for instrument 0, for some ticks. */
    private static TrackerHouse played(String items, String rows, int ticks) {
        TrackerHouse house = Check.house(items + " part 0 " + rows + "; order 0;");
        Check.due("ticks of " + rows, Check.play(house, ticks), ticks);
        return house;
    }

    private static final String TONE = "wave 0 byte 1 2 3 4; loop 0 0 4; ";

    private static void volumes() {
        Check.due("none", played(TONE, "0 0 none 9", 2).voice(0, 3), 64);
        Check.due("vol", played(TONE, "0 0 vol 9", 2).voice(0, 3), 9);
        Check.due("vol beyond", played(TONE, "0 0 vol 65", 1).voice(0, 3), 64);
        Check.due("vol below", played(TONE, "0 0 vol -1", 1).voice(0, 3), 0);
        Check.due("vol without an instrument", played(TONE, "-1 -1 vol 5", 1).voice(0, 3), 5);
        Check.due("slide at tick 0", played(TONE, "0 0 slide -3", 1).voice(0, 3), 64);
        Check.due("slide", played(TONE, "0 0 slide -3", 3).voice(0, 3), 58);
        Check.due("slide below", played(TONE, "0 0 slide -40", 4).voice(0, 3), 0);
        Check.due("slide beyond", played(TONE, "0 0 vol 9 . -1 -1 slide 50", 9).voice(0, 3), 64);
        Check.due("slide goes no further than its row", played(TONE, "0 0 slide -3 . ", 12).voice(0, 3), 49);
    }

    private static void steps() {
        Check.due("up at tick 0", played(TONE, "48 0 up 5", 1).voice(0, 2), 256);
        Check.due("up", played(TONE, "48 0 up 5", 3).voice(0, 2), 266);
        Check.due("up beyond", played(TONE, "48 0 up 65280", 3).voice(0, 2), 65535);
        Check.due("up below", played(TONE, "48 0 up -300", 3).voice(0, 2), 0);
        Check.due("down at tick 0", played(TONE, "48 0 down 5", 1).voice(0, 2), 256);
        Check.due("down", played(TONE, "48 0 down 5", 3).voice(0, 2), 246);
        Check.due("down below", played(TONE, "48 0 down 200", 3).voice(0, 2), 0);
        Check.due("down beyond", played(TONE, "48 0 down -999999999", 2).voice(0, 2), 65535);
    }

    private static void cuts() {
        Check.due("cut 0", played(TONE, "0 0 cut 0", 1).voice(0, 3), 0);
        Check.due("cut 2 at 1", played(TONE, "0 0 cut 2", 2).voice(0, 3), 64);
        Check.due("cut 2 at 2", played(TONE, "0 0 cut 2", 3).voice(0, 3), 0);
        Check.due("cut -1", played(TONE, "0 0 cut -1", 6).voice(0, 3), 64);
        Check.due("cut 6", played(TONE, "0 0 cut 6", 6).voice(0, 3), 64);
    }

    private static void agains() {
        TrackerHouse house = played(TONE, "24 0 again 2", 2);
        Check.due("again 2 at 1", house.voice(0, 1), 8 * 64);
        Check.due("again 2 at 1", house.voice(0, 4), 2);
        Check.play(house, 1);
        Check.due("again 2 at 2", house.voice(0, 1), 4 * 64);
        Check.due("again 2 at 2", house.voice(0, 4), 1);
        Check.play(house, 2);
        Check.due("again 2 at 4", house.voice(0, 4), 1);
        house = played(TONE, "-2 0 again 1", 1);
        Check.due("again at tick 0", house.voice(0, 5), 0);
        Check.play(house, 1);
        Check.due("again makes on", house.voice(0, 5), 1);
        Check.due("again 0", played(TONE, "36 0 again 0", 6).voice(0, 4), 6);
        Check.due("again -1", played(TONE, "36 0 again -1", 6).voice(0, 4), 6);
        house = played(TONE, "-1 -1 off 1 . -1 -1 again 1", 9);
        Check.due("again without an instrument", house.voice(0, 5), 0);
        Check.due("again without an instrument", house.voice(0, 1), 256);
        Check.due("no refusal", house.look(5), 0);
    }

    private static void offs() {
        Check.due("off", played(TONE, "-1 0 off 3", 1).voice(0, 1), 768);
        Check.due("off below", played(TONE, "-1 0 off 3 . -1 -1 off -1", 7).voice(0, 1), 0);
        Check.due("off 1000", played(TONE, "-1 -1 off 1000", 1).voice(0, 1), 256000);
        Check.due("off beyond", played(TONE, "-1 -1 off 1001", 1).voice(0, 1), 256000);
        Check.due("off is heard", played(TONE, "48 0 off 2", 1).frame(0), 768);
    }

    private static final String[] KINDS = {"byte", "short", "char", "int", "long"};

    private static long narrowed(int kind, long number) {
        switch (kind) {
            case 0: return (byte) number;
            case 1: return (short) number;
            case 2: return (char) number;
            case 3: return (int) number;
            default: return number;
        }
    }

    private static void wholeCells() {
        long[] olds = {5, -9, 127, -128, 32767, -32768, 65535, 999999999, -999999999};
        long[] as = {0, 1, -1, 3, -7, 300, 70000, 999999999, -999999999, 15, 16, 19};
        for (int kind = 0; kind < 5; kind++) {
            for (long old : olds) {
                for (long a : as) {
                    long was = narrowed(kind, old);
                    String start = "wave 0 " + KINDS[kind] + " 1 " + old + " 1; ";
                    cellAfter(start, "set", kind, a, a);
                    cellAfter(start, "add", kind, a, was + a);
                    cellAfter(start, "mul", kind, a, was * a);
                    cellAfter(start, "shr", kind, a, was >> (a & 15));
                    cellAfter(start, "flip", kind, a, ~was);
                    cellAfter(start, "bump", kind, a, was + 1);
                    cellAfter(start, "drop", kind, a, was - 1);
                }
            }
        }
        // twice beyond the 8 bytes
        TrackerHouse house = played("wave 0 long 999999999; ",
            "-1 0 mul 999999999, -1 0 mul 999999999, -1 0 mul 999999999, -1 0 mul -7", 1);
        Check.due("long goes round", Check.cell(house, 0, 0), 999999999L * 999999999L * 999999999L * 999999999L * -7L);
    }

    private static void cellAfter(String start, String effect, int kind, long a, long due) {
        TrackerHouse house = played(start, "-1 0 off 1 . -1 -1 " + effect + " " + a, 7);
        Check.due(start + effect + " " + a, Check.cell(house, 0, 1), narrowed(kind, due));
        Check.due(start + effect + " " + a + " leaves", Check.cell(house, 0, 0), 1);
        Check.due(start + effect + " " + a + " leaves", Check.cell(house, 0, 2), 1);
    }

    private static void refused(String what, TrackerHouse house, int number) {
        Check.due(what + ": event", house.event(0), number);
        Check.due(what + ": refusals", house.look(5), 1);
        Check.due(what + ": events", house.look(7), 1);
    }

    private static void cellsRefused() {
        for (String effect : new String[] {"set", "add", "mul", "shr", "flip", "bump", "drop"}) {
            refused(effect, played(TONE, "-1 -1 " + effect + " 1", 1), 1);
            refused(effect, played(TONE, "-1 1 " + effect + " 1", 1), 2);
            TrackerHouse house = played(TONE, "-1 0 off 4 . -1 -1 " + effect + " 1", 7);
            refused(effect, house, 3 + 128 * 6);
            for (int i = 0; i < 4; i++) {
                Check.due(effect + " leaves", Check.cell(house, 0, i), i + 1);
            }
        }
    }

    private static void truths() {
        String gate = "gate 0 0 1 0 1; ";
        int[][] due = {{1, 0, 1, 0}, {0, 0, 0, 0}, {1, 1, 1, 1}};
        String[] effects = {"turn", "shut", "open"};
        for (int e = 0; e < 3; e++) {
            for (int i = 0; i < 4; i++) {
                TrackerHouse house = played(gate, "-1 0 " + effects[e] + " " + i, 6);
                for (int j = 0; j < 4; j++) {
                    Check.due(effects[e] + " " + i + " " + j, house.gate(0, j), j == i ? due[e][i] : j % 2);
                }
            }
            refused(effects[e], played(gate, "-1 -1 " + effects[e] + " 0", 1), 1);
            refused(effects[e], played(gate, "-1 1 " + effects[e] + " 0", 1), 4);
            refused(effects[e], played(gate, "-1 0 " + effects[e] + " 4", 1), 5);
            refused(effects[e], played(gate, "-1 0 " + effects[e] + " -1", 1), 5);
        }
    }

    private static void swells() {
        String swell = TONE + "swell 0 32 0 64; ";
        swellIs("more", played(swell, "0 0 swell 8", 1), 0, 40);
        swellIs("less", played(swell, "0 0 swell -8", 1), 0, 24);
        swellIs("beyond", played(swell, "0 0 swell 33", 1), 0, 64);
        swellIs("below", played(swell, "0 0 swell -33", 1), 0, 0);
        swellIs("far beyond", played(swell, "0 0 swell 999999999", 1), 0, 64);
        swellIs("not on", played(swell, "-1 0 swell 8", 1), 0, 40);
        swellIs("at its age", played(swell, "0 0 speed 1 . -1 -1 swell 8", 2), 1, 8);
        refused("no instrument", played(swell, "-1 -1 swell 8", 1), 1);
        refused("no swell", played(swell, "-1 1 swell 8", 1), 6);
        refused("beyond", played(swell, "0 0 speed 3 . -1 -1 swell 8", 4), 7 + 128 * 3);
        swellIs("least", played(swell, "0 0 speed 2 . -1 -1 swell -1", 3), 2, 63);
    }

    private static void swellIs(String what, TrackerHouse house, int i, int parts) {
        Check.due("swell " + what, house.swell(0, i), Float.floatToIntBits(parts / 64f));
        Check.due("swell " + what + ": events", house.look(7), 0);
    }

    private static void lending() {
        String two = "wave 0 byte 1 2; wave 3 short 7 8 9; loop 3 0 3; ";
        TrackerHouse house = played(two, "-1 0 lend 3 . -1 -1 set 300", 12);
        Check.due("kind", house.instrument(0, 0), 1);
        Check.due("cells", house.instrument(0, 1), 3);
        Check.due("same", house.instrument(3, 6), 0);
        Check.due("same", house.instrument(0, 6), 0);
        Check.due("lender's cell", Check.cell(house, 3, 0), 300);
        Check.due("no loop is lent", house.instrument(0, 5), -1);
        house = played(two, "-1 0 lend 5 . -1 -1 set 1", 12);
        Check.due("missing", house.instrument(0, 0), -1);
        refused("missing", house, 2 + 128 * 6);
        for (String a : new String[] {"16", "-1"}) {
            house = played(two, "-1 0 lend " + a, 6);
            Check.due("lend " + a, house.instrument(0, 0), 0);
            Check.due("lend " + a, house.look(7), 0);
        }
        refused("no instrument", played(two, "-1 -1 lend 3", 1), 1);
        refused("no instrument", played(two, "-1 -1 lend 16", 1), 1);
        // a wave lives on in the one that it was lent to
        house = played(two, "-1 0 lend 3, -1 3 lose 0, -1 5 lend 0", 6);
        Check.due("lives on", Check.cell(house, 0, 2), 9);
        Check.due("lost", house.instrument(3, 6), -1);
        Check.due("lent on", house.instrument(5, 6), 0);
        house = played(two, "-1 0 lend 0", 6);
        Check.due("its own", house.instrument(0, 6), 0);
        Check.due("its own", Check.cell(house, 0, 1), 2);
    }

    private static void losing() {
        TrackerHouse house = played(TONE, "48 0 lose 0", 1);
        Check.due("lost", house.instrument(0, 0), -1);
        Check.due("no cell", Check.cell(house, 0, 0), Check.NO_CELL);
        Check.due("silence", house.frame(0), 0);
        Check.due("off", house.voice(0, 5), 0);
        refused("frame without a wave", house, 2);
        house = played(TONE, "-1 1 lose 0", 1);
        Check.due("nothing to lose", house.look(7), 0);
        refused("no instrument", played(TONE, "-1 -1 lose 0", 1), 1);
    }

    private static void copying() {
        String three = "wave 0 byte 1 2 3; wave 1 byte 7 8; wave 2 short 9; wave 3 byte 4 4 4 4 4; ";
        TrackerHouse house = played(three, "-1 0 copy 1", 1);
        Check.due("copied", Check.cell(house, 0, 0), 7);
        Check.due("copied", Check.cell(house, 0, 1), 8);
        Check.due("left", Check.cell(house, 0, 2), 3);
        Check.due("its own", house.instrument(1, 6), 1);
        house = played(three, "-1 0 copy 3", 1);
        Check.due("copied", Check.cell(house, 0, 2), 4);
        Check.due("cells", house.instrument(0, 1), 3);
        Check.due("no event", house.look(7), 0);
        refused("no instrument", played(three, "-1 -1 copy 0", 1), 1);
        refused("missing here", played(three, "-1 5 copy 0", 1), 2);
        refused("missing there", played(three, "-1 0 copy 5", 1), 2);
        refused("two kinds", played(three, "-1 0 copy 2", 1), 8);
        refused("none", played(three, "-1 0 copy 16", 1), 8);
        refused("none", played(three, "-1 0 copy -1", 1), 8);
        house = played(three, "-1 0 copy 0", 1);
        Check.due("from itself", Check.cell(house, 0, 1), 2);
    }

    private static void swapping() {
        TrackerHouse house = played(TONE, "-1 0 swap 3", 1);
        int[] due = {4, 2, 3, 1};
        for (int i = 0; i < 4; i++) {
            Check.due("swap " + i, Check.cell(house, 0, i), due[i]);
        }
        house = played(TONE, "-1 0 swap 0", 1);
        Check.due("swap 0", Check.cell(house, 0, 0), 1);
        Check.due("swap 0", house.look(7), 0);
        refused("no instrument", played(TONE, "-1 -1 swap 0", 1), 1);
        refused("no wave", played(TONE, "-1 1 swap 0", 1), 2);
        refused("beyond", played(TONE, "-1 0 swap 4", 1), 3);
        refused("below", played(TONE, "-1 0 swap -1", 1), 3);
    }

    /** Arguments at the ends of an int, which a container alone can tell, go round nowhere. */
    private static void largestArguments() {
        int[][] due = {
            // effect, argument, what of the voice, answer behind 2 ticks
            {1, Integer.MAX_VALUE, 3, 64}, {1, Integer.MIN_VALUE, 3, 0},
            {2, Integer.MAX_VALUE, 3, 64}, {2, Integer.MIN_VALUE, 3, 0},
            {3, Integer.MAX_VALUE, 2, 65535}, {3, Integer.MIN_VALUE, 2, 0},
            {4, Integer.MAX_VALUE, 2, 0}, {4, Integer.MIN_VALUE, 2, 65535},
            {6, Integer.MAX_VALUE, 4, 2}, {6, Integer.MIN_VALUE, 4, 2},
        };
        for (int[] row : due) {
            TrackerHouse house = Check.house(Check.join(Check.row(84, 77, 9, 0, 1, 0, 0, 64), new byte[15],
                Check.row(1, 1, 2, 1, row[0]), Check.big(row[1], 4), new byte[15], Check.row(1, 0)));
            Check.play(house, 2);
            Check.due("effect " + row[0] + " " + row[1], house.voice(0, row[2]), row[3]);
        }
        for (int a : new int[] {Integer.MAX_VALUE, Integer.MIN_VALUE}) {
            for (int effect = 0; effect < 26; effect++) {
                TrackerHouse house = Check.house(Check.join(Check.row(84, 77, 15, 0, 1, 0, 1, 0, 1, 0, 0, 0, 0, 0, 64),
                    new byte[15], Check.row(1, 1, 2, 1, effect), Check.big(a, 4), new byte[15], Check.row(1, 0)));
                int ticks = effect == 8 ? a > 0 ? 12 : 1 : effect == 9 && a < 0 ? 64 : 6;
                Check.due("effect " + effect + " " + a, Check.play(house, 64), ticks);
            }
        }
    }
}
