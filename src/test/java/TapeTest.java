/** Promises 1 to 3: a new object, feed, end. */
public final class TapeTest {
    public static void main(String[] args) {
        newObject();
        feeding();
        ending();
        Check.finish();
    }

    private static void newObject() {
        TrackerHouse house = new TrackerHouse();
        Check.due("NONE", TrackerHouse.NONE, -1);
        for (int what = -1; what < 12; what++) {
            Check.due("new look " + what, house.look(what), what == 8 ? 0 : -1);
            Check.due("new voice " + what, house.voice(0, what), -1);
            Check.due("new instrument " + what, house.instrument(0, what), -1);
        }
        Check.due("new again", house.again(), false);
        Check.due("new play", Check.play(house, 1), Check.NO_ELEMENT);
        Check.due("new cell", Check.cell(house, 0, 0), Check.NO_CELL);
        Check.due("new gate", house.gate(0, 0), -1);
        Check.due("new swell", house.swell(0, 0), -1);
        Check.due("new frame", house.frame(0), 40000);
        Check.due("new event", house.event(0), -1);
        Check.due("new pack", house.pack(), -1);
        Check.due("new packed", house.packed(0), -1);
        Check.due("new take", house.take(), false);
    }

    private static void feeding() {
        TrackerHouse house = new TrackerHouse();
        // the highest byte comes first: "order 0 ;" and blanks
        Check.due("feed", house.feed(0x6F726465, 0x72203020, 0x3B202020, 0x20202020, 0x20202020), true);
        Check.due("length", house.look(8), 20);
        Check.due("read", house.read(false), 0);
        Check.due("length", house.look(8), 0);
        for (int i = 0; i < 300; i++) {
            Check.due("feed " + i, house.feed(i, i, i, i, i), true);
        }
        Check.due("full", house.look(8), 6000);
        Check.due("feed beyond", house.feed(0, 0, 0, 0, 0), false);
        Check.due("full", house.look(8), 6000);
        Check.due("end", house.end(5981), true);
        Check.due("feed beyond by one", house.feed(0, 0, 0, 0, 0), false);
        Check.due("as it was", house.look(8), 5981);
        Check.due("end", house.end(5980), true);
        Check.due("feed again", house.feed(0, 0, 0, 0, 0), true);
        Check.due("full", house.look(8), 6000);
    }

    private static void ending() {
        TrackerHouse house = new TrackerHouse();
        Check.due("end of nothing", house.end(0), true);
        Check.due("end beyond nothing", house.end(1), false);
        house.feed(0x6F726465, 0x72203020, 0x3B00FFFF, -1, -1);
        Check.due("end below 0", house.end(-1), false);
        Check.due("end least", house.end(Integer.MIN_VALUE), false);
        Check.due("end beyond", house.end(21), false);
        Check.due("end most", house.end(Integer.MAX_VALUE), false);
        Check.due("as it was", house.look(8), 20);
        Check.due("end whole", house.end(20), true);
        Check.due("end", house.end(9), true);
        Check.due("length", house.look(8), 9);
        Check.due("end longer", house.end(10), false);
        Check.due("read", house.read(false), 0);
    }
}
