/** Containers of bytes for tests, whose first INSTRUMENT and first PART are told and the others missing. */
final class Box {
    static final byte[] HEAD = Check.row(84, 77);
    static final byte[] NOTHING = Check.row(0);
    static final byte[] ORDER = Check.row(1, 0);
    /** Where the first INSTRUMENT's first byte stands. */
    static final int INSTRUMENT = 2;
    /** Where the first PART's first byte stands in a container without INSTRUMENTS. */
    static final int PART = 18;

    private Box() {
    }

    static byte[] of(byte[] instrument, byte[] part, byte[] order) {
        return Check.join(HEAD, instrument, new byte[15], part, new byte[15], order);
    }

    static byte[] instrument(byte[]... bytes) {
        return of(Check.join(bytes), NOTHING, ORDER);
    }

    static byte[] part(byte[]... bytes) {
        return of(NOTHING, Check.join(bytes), ORDER);
    }

    static byte[] note(int pitch, int instrument, int effect, int argument) {
        return Check.join(Check.row(pitch + 2, instrument + 1, effect), Check.big(argument, 4));
    }

    /** A PART of one ROW for each NOTE, all of voice 0. */
    static byte[] rows(byte[]... notes) {
        byte[] all = Check.row(notes.length);
        for (byte[] note : notes) {
            all = Check.join(all, Check.row(1), note);
        }
        return all;
    }

    /** The fault of a container, behind which there is no module and no tape. */
    static void fault(String what, byte[] container, int place) {
        Run run = Run.of("wave 0 byte 1; order 0;");
        run.feed(container);
        Check.due(what, run.read(true), 7 + 16 * place);
        Check.due(what + ": no module", run.look(9), -1);
        Check.due(what + ": no tape", run.look(8), 0);
    }
}
