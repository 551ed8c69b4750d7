import java.util.NoSuchElementException;

/** A house for tracker music; DOC.md tells its promises, and its capital words are used here as there. */
public final class TrackerHouse {
    public static final int NONE = -1;

    private static final int LEAST_INT = 0x80000000;
    private static final int MOST_INT = 0x7FFFFFFF;
    private static final long LEAST_LONG = 0x8000000000000000L;
    private static final long MOST_LONG = 0x7FFFFFFFFFFFFFFFL;

    private static final int TAPE_BYTES = 6000;
    /** What the largest module packs to: the head, 16 full INSTRUMENTS, 16 full PARTS, a full ORDER. */
    private static final int CONTAINER_BYTES = 2 + 16 * 587 + 16 * 929 + 33;

    private static final int INSTRUMENTS = 16;
    private static final int PARTS = 16;
    private static final int CELLS = 64;
    private static final int TRUTHS = 32;
    private static final int SWELLS = 16;
    private static final int ROWS = 32;
    private static final int VOICES = 4;
    private static final int PLACES = 32;
    private static final int PITCHES = 96;
    private static final int EFFECTS = 26;

    private static final int KINDS = 7;
    private static final int BYTE = 0;
    private static final int SHORT = 1;
    private static final int CHAR = 2;
    private static final int INT = 3;
    private static final int LONG = 4;
    private static final int FLOAT = 5;

    private static final int VOL = 1;
    private static final int SLIDE = 2;
    private static final int UP = 3;
    private static final int DOWN = 4;
    private static final int CUT = 5;
    private static final int AGAIN = 6;
    private static final int OFF = 7;
    private static final int SPEED = 8;
    private static final int JUMP = 9;
    private static final int NEXT = 10;
    private static final int SET = 11;
    private static final int ADD = 12;
    private static final int MUL = 13;
    private static final int SHR = 14;
    private static final int FLIP = 15;
    private static final int BUMP = 16;
    private static final int DROP = 17;
    private static final int TURN = 18;
    private static final int OPEN = 20;
    private static final int SWELL = 21;
    private static final int LEND = 22;
    private static final int LOSE = 23;
    private static final int COPY = 24;

    private static final int MISSING_PART = 0;
    private static final int NO_INSTRUMENT = 1;
    private static final int NO_WAVE = 2;
    private static final int BEYOND_WAVE = 3;
    private static final int NO_GATE = 4;
    private static final int BEYOND_GATE = 5;
    private static final int NO_SWELL = 6;
    private static final int BEYOND_SWELL = 7;
    private static final int UNLIKE = 8;

    private static final int MOST_TICKS = 64;
    private static final int NO_FRAME = 40000;

    private final Tape tape;
    private final Tape packedBytes;
    private final Song song;
    private final Player player;
    private final TextReader texts;
    private final Containers containers;

    public TrackerHouse() {
        tape = new Tape(new byte[TAPE_BYTES]);
        packedBytes = new Tape(new byte[CONTAINER_BYTES]);
        song = new Song();
        player = new Player(song);
        texts = new TextReader(tape, song);
        containers = new Containers(song);
    }

    public boolean feed(int a, int b, int c, int d, int e) {
        if (tape.length > TAPE_BYTES - 20) {
            return false;
        }
        tape.addBytes(a, 4);
        tape.addBytes(b, 4);
        tape.addBytes(c, 4);
        tape.addBytes(d, 4);
        tape.addBytes(e, 4);
        return true;
    }

    public boolean end(int n) {
        if (n < 0 || n > tape.length) {
            return false;
        }
        tape.length = n;
        return true;
    }

    public int read(boolean container) {
        int fault = container ? containers.readFrom(tape) : texts.readAll();
        tape.length = 0;
        song.present = fault == 0;
        player.restart();
        return fault;
    }

    public boolean again() {
        if (!song.present) {
            return false;
        }
        player.restart();
        return true;
    }

    public int play(int n) throws IllegalArgumentException, NoSuchElementException {
        if (n < 1 || n > MOST_TICKS) {
            throw new IllegalArgumentException("ticks are 1 to 64");
        }
        if (!song.present) {
            throw new NoSuchElementException("no module");
        }
        int made = 0;
        while (made < n && !player.over) {
            player.makeTick();
            made++;
        }
        return made;
    }

    public boolean mute(int v, boolean on) {
        Voice voice = player.voiceAt(v);
        if (voice == null) {
            return false;
        }
        voice.muted = on;
        return true;
    }

    public int look(int what) {
        if (what == 8) {
            return tape.length;
        }
        if (!song.present) {
            return NONE;
        }
        switch (what) {
            case 0: return player.place;
            case 1: return player.row;
            case 2: return player.tick;
            case 3: return player.speed;
            case 4: return player.over ? 1 : 0;
            case 5: return player.refusals;
            case 6: return player.frameCount;
            case 7: return player.eventCount;
            case 9: return song.orderSize;
            default: return NONE;
        }
    }

    public int voice(int v, int what) {
        Voice voice = player.voiceAt(v);
        if (voice == null || !song.present) {
            return NONE;
        }
        switch (what) {
            case 0: return voice.instrument;
            case 1: return voice.position;
            case 2: return voice.step;
            case 3: return voice.volume;
            case 4: return voice.age;
            case 5: return voice.on ? 1 : 0;
            case 6: return voice.muted ? 1 : 0;
            default: return NONE;
        }
    }

    public int instrument(int k, int what) {
        Instrument asked = presentInstrument(k);
        if (asked == null) {
            return NONE;
        }
        Wave wave = song.waveOf(asked);
        switch (what) {
            case 0: return wave == null ? NONE : wave.kind;
            case 1: return wave == null ? NONE : wave.size;
            case 2: return asked.gateSize == 0 ? NONE : asked.gateSize;
            case 3: return asked.swellSize == 0 ? NONE : asked.swellSize;
            case 4: return asked.loopEnd == 0 ? NONE : asked.loopStart;
            case 5: return asked.loopEnd == 0 ? NONE : asked.loopEnd;
            case 6: return song.leastSharer(asked.wave);
            default: return NONE;
        }
    }

    public long cell(int k, int i) throws NoSuchElementException {
        Wave wave = song.waveOf(presentInstrument(k));
        if (wave == null || i < 0 || i >= wave.size) {
            throw new NoSuchElementException("no such cell");
        }
        return wave.cells[i];
    }

    public int gate(int k, int i) {
        Instrument asked = presentInstrument(k);
        if (asked == null || i < 0 || i >= asked.gateSize) {
            return NONE;
        }
        return asked.gate[i] ? 1 : 0;
    }

    public int swell(int k, int i) {
        Instrument asked = presentInstrument(k);
        if (asked == null || i < 0 || i >= asked.swellSize) {
            return NONE;
        }
        return asked.swell[i];
    }

    public int frame(int k) {
        return song.present ? player.keptFrame(k) : NO_FRAME;
    }

    public int event(int k) {
        return song.present ? player.keptEvent(k) : NONE;
    }

    public int pack() {
        return song.present ? containers.writeTo(packedBytes) : NONE;
    }

    public int packed(int i) {
        return packedBytes.at(i);
    }

    public boolean take() {
        if (packedBytes.length == 0) {
            return false;
        }
        song.present = containers.readFrom(packedBytes) == 0;
        player.restart();
        return song.present;
    }

    private Instrument presentInstrument(int k) {
        return song.present ? song.instrumentAt(k) : null;
    }

    private static int clamp(long number, int least, int most) {
        return (int) Math.max(least, Math.min(most, number));
    }

    /** A row of bytes that grows up to the size of its array. */
    private static final class Tape {
        private final byte[] bytes;
        private int length;

        Tape(byte[] bytes) {
            this.bytes = bytes;
        }

        int at(int i) {
            return i >= 0 && i < length ? bytes[i] & 255 : NONE;
        }

        void add(int number) {
            if (length < bytes.length) {
                bytes[length] = (byte) number;
                length++;
            }
        }

        /** The lowest bytes of a number, the highest of them first. */
        void addBytes(long number, int width) {
            for (int i = width - 1; i >= 0; i--) {
                add((int) (number >> (8 * i)));
            }
        }
    }

    /**
     * Reals as bits and as values. No library function tells the bits, so they are reckoned: all reals here
     * are of less than 2^20, so that a value is always a whole number of 24 or 53 binary digits, halved some times.
     */
    private static final class Reals {
        private static final long LARGEST = 1000000;
        private static final long LARGEST_NARROW_BITS = 0x49742400L;
        private static final long LARGEST_WIDE_BITS = 0x412E848000000000L;
        private static final long ONE_BITS = 0x3F800000L;

        static boolean mayBeCell(long bits, boolean narrow) {
            return narrow
                ? (bits & MOST_INT) <= LARGEST_NARROW_BITS
                : (bits & MOST_LONG) <= LARGEST_WIDE_BITS;
        }

        static boolean mayBeSwell(int bits) {
            return bits >= 0 && bits <= ONE_BITS || bits == LEAST_INT;
        }

        static double valueOf(long bits, boolean narrow) {
            int digits = narrow ? 23 : 52;
            int mostHalvings = narrow ? 149 : 1074;
            long magnitude = bits & (narrow ? MOST_INT : MOST_LONG);
            int exponent = (int) (magnitude >> digits);
            long top = 1L << digits;
            double value = exponent == 0 ? magnitude : magnitude % top + top;
            int halvings = exponent == 0 ? mostHalvings : mostHalvings + 1 - exponent;
            double factor = 0.5;
            for (int bit = 0; bit < 11; bit++) {
                if ((halvings >> bit & 1) == 1) {
                    value *= factor;
                }
                factor *= factor;
            }
            return bits < 0 ? -value : value;
        }

        /** The bits of a value that is one of its width; a zero's sign can't be seen in it, so it is told. */
        static long bitsOf(double value, boolean negative, boolean narrow) {
            int digits = narrow ? 23 : 52;
            int mostHalvings = narrow ? 149 : 1074;
            long top = 1L << digits;
            double whole = value < 0 ? -value : value;
            int halvings = 0;
            while (halvings < mostHalvings && whole < top) {
                whole *= 2;
                halvings++;
            }
            long bits = (long) whole;
            if (bits >= top) {
                bits = bits - top + ((mostHalvings + 1L - halvings) << digits);
            }
            if (!negative) {
                return bits;
            }
            return narrow ? (int) bits | LEAST_INT : bits | LEAST_LONG;
        }

        static double held(double value) {
            if (value > LARGEST) {
                return LARGEST;
            }
            return value < -LARGEST ? -LARGEST : value;
        }

        static int whole(double value) {
            double loud = value * 32768;
            if (loud > 32767) {
                return 32767;
            }
            return loud < -32768 ? -32768 : (int) loud;
        }
    }

    /** CELLS of a KIND, each as cell() answers it: wholes with their sign, reals as bits. */
    private static final class Wave {
        private final long[] cells;
        private int kind;
        private int size;

        Wave() {
            cells = new long[CELLS];
        }

        boolean isReal() {
            return kind >= FLOAT;
        }

        int width() {
            switch (kind) {
                case BYTE: return 1;
                case SHORT:
                case CHAR: return 2;
                case INT:
                case FLOAT: return 4;
                default: return 8;
            }
        }

        long narrowed(long number) {
            switch (kind) {
                case BYTE: return (byte) number;
                case SHORT: return (short) number;
                case CHAR: return (char) number;
                case INT:
                case FLOAT: return (int) number;
                default: return number;
            }
        }

        void change(int i, int effect, int a) {
            if (i < 0 || i >= cells.length) {
                return;
            }
            cells[i] = isReal() ? changedReal(cells[i], effect, a) : narrowed(changedWhole(cells[i], effect, a));
        }

        private static long changedWhole(long old, int effect, int a) {
            switch (effect) {
                case SET: return a;
                case ADD: return old + a;
                case MUL: return old * a;
                case SHR: return old >> (a & 15);
                case FLIP: return ~old;
                case BUMP: return old + 1;
                case DROP: return old - 1;
                default: return old;
            }
        }

        private long changedReal(long bits, int effect, int a) {
            boolean narrow = kind == FLOAT;
            double old = Reals.valueOf(bits, narrow);
            boolean zeroIsNegative = false;
            double made;
            switch (effect) {
                case SET:
                    made = a / 256.0;
                    break;
                case MUL:
                    made = narrow ? (float) old * (float) a : old * a;
                    zeroIsNegative = (bits < 0) != (a < 0);
                    break;
                case SHR:
                    made = old / (1 << (a & 15));
                    zeroIsNegative = bits < 0;
                    break;
                case FLIP:
                    return bits ^ (narrow ? LEAST_INT : LEAST_LONG);
                default:
                    made = sum(old, effect == ADD ? a / 256.0 : effect == BUMP ? 1 : -1);
                    break;
            }
            double kept = Reals.held(narrow ? (float) made : made);
            return Reals.bitsOf(kept, kept < 0 || kept == 0 && zeroIsNegative, narrow);
        }

        private double sum(double old, double more) {
            return kind == FLOAT ? (float) old + (float) more : old + more;
        }

        int wholeAt(int i) {
            if (i < 0 || i >= cells.length) {
                return 0;
            }
            long number = cells[i];
            switch (kind) {
                case BYTE: return (int) number * 256;
                case SHORT: return (int) number;
                case CHAR: return (int) number - 32768;
                case INT: return (int) (number >> 16);
                case LONG: return (int) (number >> 48);
                default: return Reals.whole(Reals.valueOf(number, kind == FLOAT));
            }
        }

        void copyFrom(Wave other) {
            System.arraycopy(other.cells, 0, cells, 0, Math.min(size, other.size));
        }

        void swapFirstWith(int i) {
            if (i < 0 || i >= cells.length) {
                return;
            }
            long first = cells[0];
            cells[0] = cells[i];
            cells[i] = first;
        }
    }

    /** An INSTRUMENT: the number of its WAVE (NONE without), and GATE, SWELL and LOOP, missing at size or end 0. */
    private static final class Instrument {
        private final boolean[] gate;
        private final int[] swell;
        private int wave;
        private int gateSize;
        private int swellSize;
        private int loopStart;
        private int loopEnd;

        Instrument() {
            gate = new boolean[TRUTHS];
            swell = new int[SWELLS];
            wave = NONE;
        }

        void clear() {
            wave = NONE;
            gateSize = 0;
            swellSize = 0;
            loopStart = 0;
            loopEnd = 0;
        }

        /** An AMOUNT behind GATE and SWELL. */
        int shaped(int amount, int age) {
            if (age < 0) {
                return amount;
            }
            if (gateSize > 0 && !gate[age % gateSize]) {
                return 0;
            }
            if (swellSize > 0) {
                float real = (float) Reals.valueOf(swell[Math.min(age, swellSize - 1)], true);
                return (int) (amount * real);
            }
            return amount;
        }

        /** A POSITION that a step brought on, brought back by the LOOP. */
        int looped(int position) {
            int cells = loopEnd - loopStart;
            int beyond = (position >> 8) - loopEnd;
            if (cells <= 0 || beyond < 0) {
                return position;
            }
            return position - (beyond / cells + 1) * cells * 256;
        }
    }

    /** The MODULE: INSTRUMENTS, WAVES, PARTS and ORDER; what is read goes straight into it. */
    private static final class Song {
        private final Instrument[] instruments;
        private final Wave[] waves;
        private final int[] rows;
        private final int[] noteCounts;
        private final int[] pitches;
        private final int[] players;
        private final int[] effects;
        private final int[] arguments;
        private final int[] order;
        private int orderSize;
        private boolean present;

        Song() {
            instruments = new Instrument[INSTRUMENTS];
            waves = new Wave[INSTRUMENTS];
            for (int k = 0; k < INSTRUMENTS; k++) {
                instruments[k] = new Instrument();
                waves[k] = new Wave();
            }
            rows = new int[PARTS];
            noteCounts = new int[PARTS * ROWS];
            pitches = new int[PARTS * ROWS * VOICES];
            players = new int[PARTS * ROWS * VOICES];
            effects = new int[PARTS * ROWS * VOICES];
            arguments = new int[PARTS * ROWS * VOICES];
            order = new int[PLACES];
        }

        void clear() {
            present = false;
            orderSize = 0;
            for (int k = 0; k < INSTRUMENTS; k++) {
                instruments[k].clear();
            }
            for (int p = 0; p < PARTS; p++) {
                rows[p] = 0;
            }
        }

        Instrument instrumentAt(int k) {
            return k >= 0 && k < INSTRUMENTS ? instruments[k] : null;
        }

        Wave waveOf(Instrument owner) {
            return owner == null || owner.wave < 0 || owner.wave >= INSTRUMENTS ? null : waves[owner.wave];
        }

        /** Gives an INSTRUMENT a WAVE of its own: the one of its own number, as none is lent while reading. */
        Wave ownWave(int k, int kind) {
            instruments[k].wave = k;
            waves[k].kind = kind;
            waves[k].size = 0;
            return waves[k];
        }

        int leastSharer(int wave) {
            if (wave == NONE) {
                return NONE;
            }
            for (int k = 0; k < INSTRUMENTS; k++) {
                if (instruments[k].wave == wave) {
                    return k;
                }
            }
            return NONE;
        }

        int partAt(int place) {
            return place >= 0 && place < orderSize ? order[place] : NONE;
        }

        int rowsOf(int part) {
            return part >= 0 && part < PARTS ? rows[part] : 0;
        }

        int notesOf(int part, int row) {
            return row >= 0 && row < rowsOf(part) ? noteCounts[part * ROWS + row] : 0;
        }

        /** Where a NOTE of a ROW stands in the NOTES' arrays. */
        int noteIndex(int part, int row, int voice) {
            return (part * ROWS + row) * VOICES + voice;
        }
    }

    /** A VOICE. */
    private static final class Voice {
        private int instrument;
        private int position;
        private int step;
        private int volume;
        private int age;
        private boolean on;
        private boolean muted;

        Voice() {
            instrument = NONE;
        }

        void restart() {
            instrument = NONE;
            position = 0;
            step = 0;
            volume = 0;
            age = 0;
            on = false;
        }

        void strike(int pitch) {
            on = true;
            position = 0;
            age = 0;
            step = (Player.PITCH_STEPS[pitch % 12] << pitch / 12) >> 4;
        }

        void strikeAgain() {
            if (instrument != NONE) {
                on = true;
                position = 0;
                age = 0;
            }
        }
    }

    /** The song as it is played. */
    private static final class Player {
        private static final int[] PITCH_STEPS = {256, 271, 287, 304, 322, 342, 362, 384, 406, 431, 456, 483};
        private static final int TICK_FRAMES = 4;
        private static final int KEPT_FRAMES = 256;
        private static final int KEPT_EVENTS = 100;
        private static final int MOST_REFUSALS = 1000;
        private static final int NO_VOICE = 4;

        private final Song song;
        private final Voice[] voices;
        private final int[] frames;
        private final int[] events;
        private int place;
        private int row;
        private int tick;
        private int speed;
        private boolean over;
        private int ticksOver;
        private int frameCount;
        private int eventCount;
        private int refusals;
        private boolean leaps;
        private int leapPlace;
        private int leapRow;

        Player(Song song) {
            this.song = song;
            voices = new Voice[VOICES];
            for (int v = 0; v < VOICES; v++) {
                voices[v] = new Voice();
            }
            frames = new int[KEPT_FRAMES];
            events = new int[KEPT_EVENTS];
        }

        void restart() {
            for (int v = 0; v < VOICES; v++) {
                voices[v].restart();
            }
            place = 0;
            row = 0;
            tick = 0;
            speed = 6;
            over = false;
            ticksOver = 0;
            frameCount = 0;
            eventCount = 0;
            leaps = false;
        }

        Voice voiceAt(int v) {
            return v >= 0 && v < VOICES ? voices[v] : null;
        }

        int keptFrame(int k) {
            boolean kept = k >= 0 && k < frameCount && k >= frameCount - KEPT_FRAMES;
            return kept ? frames[k % KEPT_FRAMES] : NO_FRAME;
        }

        int keptEvent(int k) {
            return k >= 0 && k < eventCount && k < KEPT_EVENTS ? events[k] : NONE;
        }

        void makeTick() {
            int part = song.partAt(place);
            if (tick == 0 && song.rowsOf(part) == 0) {
                tell(MISSING_PART, NO_VOICE);
            }
            takeNotes(part);
            for (int f = 0; f < TICK_FRAMES && !over; f++) {
                mix();
            }
            if (over) {
                return;
            }
            for (int v = 0; v < VOICES; v++) {
                if (voices[v].on) {
                    voices[v].age++;
                }
            }
            ticksOver++;
            tick++;
            if (tick >= speed) {
                leaveRow(part);
            }
        }

        private void leaveRow(int part) {
            tick = 0;
            if (leaps) {
                place = leapPlace;
                row = leapRow;
            } else if (row < song.rowsOf(part) - 1) {
                row++;
            } else {
                place++;
                row = 0;
            }
            leaps = false;
            over = place >= song.orderSize;
        }

        private void takeNotes(int part) {
            int notes = song.notesOf(part, row);
            for (int v = 0; v < notes && v < VOICES && !over; v++) {
                int note = song.noteIndex(part, row, v);
                int effect = song.effects[note];
                int a = song.arguments[note];
                if (tick > 0) {
                    goOn(voices[v], effect, a);
                    continue;
                }
                takeNote(v, song.pitches[note], song.players[note]);
                if (over) {
                    return;
                }
                if (effect < SET) {
                    steer(voices[v], effect, a);
                } else {
                    changeInstrument(v, effect, a);
                }
            }
        }

        private void takeNote(int v, int pitch, int instrument) {
            Voice voice = voices[v];
            if (instrument != NONE) {
                voice.instrument = instrument;
                voice.volume = 64;
            }
            if (pitch == -2) {
                voice.on = false;
            }
            if (pitch < 0) {
                return;
            }
            if (voice.instrument == NONE) {
                refuse(NO_INSTRUMENT, v);
            } else {
                voice.strike(pitch);
            }
        }

        /** EFFECTS of tick 0 on the voice and the song. */
        private void steer(Voice voice, int effect, int a) {
            switch (effect) {
                case VOL:
                    voice.volume = clamp(a, 0, 64);
                    break;
                case CUT:
                    voice.volume = a == 0 ? 0 : voice.volume;
                    break;
                case OFF:
                    voice.position = 256 * clamp(a, 0, 1000);
                    break;
                case SPEED:
                    speed = clamp(a, 1, 12);
                    break;
                case JUMP:
                    leap(a, 0);
                    break;
                case NEXT:
                    leap(place + 1, a);
                    break;
                default:
                    break;
            }
        }

        private void leap(int toPlace, int toRow) {
            leaps = true;
            leapPlace = Math.max(toPlace, 0);
            leapRow = Math.max(toRow, 0);
        }

        /** EFFECTS of the other ticks. */
        private void goOn(Voice voice, int effect, int a) {
            switch (effect) {
                case SLIDE:
                    voice.volume = clamp((long) voice.volume + a, 0, 64);
                    break;
                case UP:
                    voice.step = clamp((long) voice.step + a, 0, 65535);
                    break;
                case DOWN:
                    voice.step = clamp((long) voice.step - a, 0, 65535);
                    break;
                case CUT:
                    voice.volume = tick == a ? 0 : voice.volume;
                    break;
                case AGAIN:
                    if (a > 0 && tick % a == 0) {
                        voice.strikeAgain();
                    }
                    break;
                default:
                    break;
            }
        }

        /** EFFECTS of tick 0 on the voice's INSTRUMENT. */
        private void changeInstrument(int v, int effect, int a) {
            Voice voice = voices[v];
            Instrument own = song.instrumentAt(voice.instrument);
            if (own == null) {
                refuse(NO_INSTRUMENT, v);
            } else if (effect <= DROP) {
                changeCell(v, own, effect, a);
            } else if (effect <= OPEN) {
                changeTruth(v, own, effect, a);
            } else if (effect == SWELL) {
                changeSwell(v, own, a);
            } else if (effect == LEND) {
                Instrument lender = song.instrumentAt(a);
                own.wave = lender == null ? own.wave : lender.wave;
            } else if (effect == LOSE) {
                own.wave = NONE;
            } else if (effect == COPY) {
                copyWave(v, song.waveOf(own), a);
            } else {
                swapCells(v, song.waveOf(own), a);
            }
        }

        private void changeCell(int v, Instrument own, int effect, int a) {
            Wave wave = song.waveOf(own);
            int i = voices[v].position >> 8;
            if (wave == null) {
                refuse(NO_WAVE, v);
            } else if (i >= wave.size) {
                refuse(BEYOND_WAVE, v);
            } else {
                wave.change(i, effect, a);
            }
        }

        private void changeTruth(int v, Instrument own, int effect, int i) {
            if (own.gateSize == 0) {
                refuse(NO_GATE, v);
            } else if (i < 0 || i >= own.gateSize) {
                refuse(BEYOND_GATE, v);
            } else {
                own.gate[i] = effect == TURN ? !own.gate[i] : effect == OPEN;
            }
        }

        private void changeSwell(int v, Instrument own, int a) {
            int i = voices[v].age;
            if (own.swellSize == 0) {
                refuse(NO_SWELL, v);
            } else if (i < 0 || i >= own.swellSize) {
                refuse(BEYOND_SWELL, v);
            } else {
                float made = (float) Reals.valueOf(own.swell[i], true) + a / 64f;
                float kept = made > 1 ? 1 : made < 0 ? 0 : made;
                own.swell[i] = (int) Reals.bitsOf(kept, false, true);
            }
        }

        private void copyWave(int v, Wave wave, int a) {
            Instrument lender = song.instrumentAt(a);
            Wave from = song.waveOf(lender);
            if (wave == null) {
                refuse(NO_WAVE, v);
            } else if (lender == null) {
                refuse(UNLIKE, v);
            } else if (from == null) {
                refuse(NO_WAVE, v);
            } else if (from.kind != wave.kind) {
                refuse(UNLIKE, v);
            } else {
                wave.copyFrom(from);
            }
        }

        private void swapCells(int v, Wave wave, int a) {
            if (wave == null) {
                refuse(NO_WAVE, v);
            } else if (a < 0 || a >= wave.size) {
                refuse(BEYOND_WAVE, v);
            } else {
                wave.swapFirstWith(a);
            }
        }

        private void mix() {
            int sum = 0;
            for (int v = 0; v < VOICES && !over; v++) {
                int amount = voices[v].on ? amountOf(v) : 0;
                sum += voices[v].muted ? 0 : amount;
            }
            if (!over) {
                frames[frameCount % KEPT_FRAMES] = clamp(sum, -32768, 32767);
                frameCount++;
            }
        }

        private int amountOf(int v) {
            Voice voice = voices[v];
            Instrument own = song.instrumentAt(voice.instrument);
            Wave wave = song.waveOf(own);
            int i = voice.position >> 8;
            if (own == null || wave == null || i >= wave.size) {
                refuse(wave == null ? NO_WAVE : BEYOND_WAVE, v);
                // the refusal that ends the song ends the tick there, ahead of what else it would do
                if (!over) {
                    voice.on = false;
                }
                return 0;
            }
            int amount = wave.wholeAt(i) * voice.volume / 64;
            voice.position = own.looped(voice.position + voice.step);
            return own.shaped(amount, voice.age);
        }

        private void refuse(int number, int v) {
            if (refusals >= MOST_REFUSALS) {
                over = true;
                return;
            }
            refusals++;
            tell(number, v);
        }

        private void tell(int number, int v) {
            if (eventCount < KEPT_EVENTS) {
                events[eventCount] = number + 16 * v + 128 * ticksOver;
            }
            eventCount++;
        }
    }

    /** Reads a TEXT; each method answers whether there was no FAULT, but for those that tell otherwise. */
    private static final class TextReader {
        private static final int BAD = 0;
        private static final int WORD = 1;
        private static final int NUMBER = 2;
        private static final int SIGN = 3;
        private static final int END = 4;

        // each word has a blank behind it
        private static final String ITEM_WORDS = "wave gate swell loop part order ";
        private static final String KIND_WORDS = "byte short char int long float double ";
        private static final String EFFECT_WORDS =
            "none vol slide up down cut again off speed jump next set add mul shr flip bump drop turn shut open swell lend lose copy swap ";

        private final Tape tape;
        private final Song song;
        private final int[] numbers;
        private int at;
        private int start;
        private int token;
        private int value;
        private int fault;

        TextReader(Tape tape, Song song) {
            this.tape = tape;
            this.song = song;
            numbers = new int[CELLS];
        }

        /** Answers the FAULT and 16 times its place, or 0. */
        int readAll() {
            song.clear();
            at = 0;
            token = BAD;
            fault = 0;
            boolean good = true;
            for (int items = 0; items <= tape.length && good && token != END; items++) {
                advance();
                switch (wordIn(ITEM_WORDS)) {
                    case 0: good = takeWave(); break;
                    case 1: good = takeGate(); break;
                    case 2: good = takeSwell(); break;
                    case 3: good = takeLoop(); break;
                    case 4: good = takePart(); break;
                    case 5: good = takeOrder(); break;
                    default: good = token == END || fail(2); break;
                }
            }
            if (good && song.orderSize == 0) {
                fail(6);
            }
            return fault;
        }

        private boolean takeWave() {
            if (!takeNumber(0, INSTRUMENTS - 1)) {
                return false;
            }
            int k = value;
            if (song.instruments[k].wave != NONE) {
                return fail(4);
            }
            advance();
            int kind = wordIn(KIND_WORDS);
            if (kind == NONE) {
                return fail(2);
            }
            int count = takeNumbers(LEAST_INT, MOST_INT, CELLS);
            Wave wave = song.ownWave(k, kind);
            wave.size = count;
            for (int i = 0; i < count; i++) {
                wave.change(i, SET, numbers[i]);
            }
            return count > 0;
        }

        private boolean takeGate() {
            if (!takeNumber(0, INSTRUMENTS - 1)) {
                return false;
            }
            Instrument owner = song.instruments[value];
            if (owner.gateSize > 0) {
                return fail(4);
            }
            owner.gateSize = takeNumbers(0, 1, TRUTHS);
            for (int i = 0; i < owner.gateSize; i++) {
                owner.gate[i] = numbers[i] == 1;
            }
            return owner.gateSize > 0;
        }

        private boolean takeSwell() {
            if (!takeNumber(0, INSTRUMENTS - 1)) {
                return false;
            }
            Instrument owner = song.instruments[value];
            if (owner.swellSize > 0) {
                return fail(4);
            }
            owner.swellSize = takeNumbers(0, 64, SWELLS);
            for (int i = 0; i < owner.swellSize; i++) {
                owner.swell[i] = (int) Reals.bitsOf(numbers[i] / 64.0, false, true);
            }
            return owner.swellSize > 0;
        }

        private boolean takeLoop() {
            if (!takeNumber(0, INSTRUMENTS - 1)) {
                return false;
            }
            Instrument owner = song.instruments[value];
            if (owner.loopEnd > 0) {
                return fail(4);
            }
            if (!takeNumber(0, CELLS - 1)) {
                return false;
            }
            owner.loopStart = value;
            if (!takeNumber(owner.loopStart + 1, CELLS)) {
                return false;
            }
            owner.loopEnd = value;
            advance();
            return isSign(';') || fail(2);
        }

        private boolean takeOrder() {
            if (song.orderSize > 0) {
                return fail(4);
            }
            song.orderSize = takeNumbers(0, PARTS - 1, PLACES);
            for (int i = 0; i < song.orderSize; i++) {
                song.order[i] = numbers[i];
            }
            return song.orderSize > 0;
        }

        private boolean takePart() {
            if (!takeNumber(0, PARTS - 1)) {
                return false;
            }
            int part = value;
            if (song.rows[part] > 0) {
                return fail(4);
            }
            for (int row = 0; row <= ROWS; row++) {
                advance();
                int notes = 0;
                boolean more = !endsRow();
                while (more && notes <= VOICES) {
                    if (!takeNote(part, row, notes)) {
                        return false;
                    }
                    notes++;
                    more = isSign(',');
                    if (more) {
                        advance();
                    }
                }
                if (!endsRow()) {
                    return fail(2);
                }
                if (row >= ROWS) {
                    return fail(5);
                }
                song.noteCounts[part * ROWS + row] = notes;
                song.rows[part] = row + 1;
                if (isSign(';')) {
                    return true;
                }
            }
            return false;
        }

        private boolean endsRow() {
            return isSign('.') || isSign(';');
        }

        /** A NOTE whose PITCH is the TOKEN; the TOKEN behind it is there then. */
        private boolean takeNote(int part, int row, int voice) {
            if (!isNumber(-2, PITCHES - 1)) {
                return false;
            }
            if (row >= ROWS || voice >= VOICES) {
                return fail(5);
            }
            int note = song.noteIndex(part, row, voice);
            song.pitches[note] = value;
            if (!takeNumber(-1, INSTRUMENTS - 1)) {
                return false;
            }
            song.players[note] = value;
            advance();
            int effect = wordIn(EFFECT_WORDS);
            if (effect == NONE) {
                return fail(2);
            }
            song.effects[note] = effect;
            if (!takeNumber(LEAST_INT, MOST_INT)) {
                return false;
            }
            song.arguments[note] = value;
            advance();
            return true;
        }

        /** NUMBERS up to a ; into the row of numbers: answers how many, 0 with a FAULT. */
        private int takeNumbers(int least, int most, int room) {
            for (int count = 0; count <= room; count++) {
                advance();
                if (count > 0 && isSign(';')) {
                    return count;
                }
                if (!isNumber(least, most)) {
                    return 0;
                }
                if (count >= room || count >= numbers.length) {
                    fail(5);
                    return 0;
                }
                numbers[count] = value;
            }
            return 0;
        }

        private boolean takeNumber(int least, int most) {
            advance();
            return isNumber(least, most);
        }

        private boolean isNumber(int least, int most) {
            if (token != NUMBER) {
                return fail(2);
            }
            return value >= least && value <= most || fail(3);
        }

        private boolean isSign(char sign) {
            return token == SIGN && value == sign;
        }

        /** Answers which of the words the TOKEN is, or NONE. */
        private int wordIn(String words) {
            if (token != WORD) {
                return NONE;
            }
            int index = 0;
            int letters = 0;
            boolean same = true;
            for (int i = 0; i < words.length(); i++) {
                char letter = words.charAt(i);
                if (letter != ' ') {
                    same = same && tape.at(start + letters) == letter;
                    letters++;
                } else if (same && letters == at - start) {
                    return index;
                } else {
                    index++;
                    letters = 0;
                    same = true;
                }
            }
            return NONE;
        }

        /** Tells a FAULT at the TOKEN; what is no TOKEN stands nowhere, so that 1 is then the least one. */
        private boolean fail(int number) {
            fault = (token == BAD ? 1 : number) + 16 * start;
            return false;
        }

        private void advance() {
            skipBlanks();
            start = at;
            int first = tape.at(at);
            if (first == NONE) {
                token = END;
            } else if (isLetter(first)) {
                takeWord();
            } else if (first == '-' || isDigit(first)) {
                takeDigits(first == '-');
            } else {
                token = first == ';' || first == ',' || first == '.' ? SIGN : BAD;
                value = first;
                at++;
            }
        }

        private void skipBlanks() {
            boolean remark = false;
            while (at < tape.length) {
                int next = tape.at(at);
                if (next == '#') {
                    remark = true;
                } else if (next == 10) {
                    remark = false;
                } else if (!remark && next != 9 && next != 13 && next != 32) {
                    return;
                }
                at++;
            }
        }

        private void takeWord() {
            while (at < tape.length && isLetter(tape.at(at))) {
                at++;
            }
            token = at - start <= 8 ? WORD : BAD;
        }

        private void takeDigits(boolean minus) {
            if (minus) {
                at++;
            }
            int from = at;
            value = 0;
            while (at < tape.length && isDigit(tape.at(at))) {
                value = value * 10 + tape.at(at) - '0';
                at++;
            }
            value = minus ? -value : value;
            token = at > from && at - from <= 9 ? NUMBER : BAD;
        }

        private static boolean isLetter(int next) {
            return next >= 'a' && next <= 'z';
        }

        private static boolean isDigit(int next) {
            return next >= '0' && next <= '9';
        }
    }

    /** Reads and writes CONTAINERS; a reading method answers false with the place at what can't stand. */
    private static final class Containers {
        private static final int FIRST = 84;
        private static final int SECOND = 77;
        private static final int HAS_WAVE = 1;
        private static final int HAS_GATE = 2;
        private static final int HAS_SWELL = 4;
        private static final int HAS_LOOP = 8;

        private final Song song;
        private Tape source;
        private int at;
        private long number;

        Containers(Song song) {
            this.song = song;
        }

        /** Answers the FAULT and 16 times its place, or 0. */
        int readFrom(Tape tape) {
            song.clear();
            source = tape;
            at = 0;
            return takeAll() ? 0 : 7 + 16 * at;
        }

        private boolean takeAll() {
            if (!takeByte(FIRST, FIRST) || !takeByte(SECOND, SECOND)) {
                return false;
            }
            for (int k = 0; k < INSTRUMENTS; k++) {
                if (!takeInstrument(k)) {
                    return false;
                }
            }
            for (int p = 0; p < PARTS; p++) {
                if (!takePart(p)) {
                    return false;
                }
            }
            return takeOrder() && at == source.length;
        }

        private boolean takeInstrument(int k) {
            if (!takeByte(0, 15)) {
                return false;
            }
            Instrument owner = song.instruments[k];
            int has = (int) number;
            return ((has & HAS_WAVE) == 0 || takeWave(k))
                && ((has & HAS_GATE) == 0 || takeGate(owner))
                && ((has & HAS_SWELL) == 0 || takeSwell(owner))
                && ((has & HAS_LOOP) == 0 || takeLoop(owner));
        }

        private boolean takeWave(int k) {
            if (!takeByte(0, KINDS - 1)) {
                return false;
            }
            Wave wave = song.ownWave(k, (int) number);
            if (!takeByte(1, CELLS)) {
                return false;
            }
            wave.size = (int) number;
            int width = wave.width();
            for (int i = 0; i < wave.size; i++) {
                if (!takeBytes(width)) {
                    return false;
                }
                if (wave.isReal() && !Reals.mayBeCell(number, width == 4)) {
                    at -= width;
                    return false;
                }
                wave.cells[i] = wave.narrowed(number);
            }
            return true;
        }

        private boolean takeGate(Instrument owner) {
            if (!takeByte(1, TRUTHS)) {
                return false;
            }
            owner.gateSize = (int) number;
            for (int i = 0; i < owner.gateSize; i++) {
                if (i % 8 == 0 && !takeTruths(owner.gateSize - i)) {
                    return false;
                }
                owner.gate[i] = (number >> (7 - i % 8) & 1) == 1;
            }
            return true;
        }

        /** A byte of truths, with 0s behind those that are left. */
        private boolean takeTruths(int left) {
            int unused = left >= 8 ? 0 : 255 >> left;
            if ((source.at(at) & unused) != 0 && at < source.length) {
                return false;
            }
            return takeByte(0, 255);
        }

        private boolean takeSwell(Instrument owner) {
            if (!takeByte(1, SWELLS)) {
                return false;
            }
            owner.swellSize = (int) number;
            for (int i = 0; i < owner.swellSize; i++) {
                if (!takeBytes(4)) {
                    return false;
                }
                if (!Reals.mayBeSwell((int) number)) {
                    at -= 4;
                    return false;
                }
                owner.swell[i] = (int) number;
            }
            return true;
        }

        private boolean takeLoop(Instrument owner) {
            if (!takeByte(0, CELLS - 1)) {
                return false;
            }
            owner.loopStart = (int) number;
            if (!takeByte(owner.loopStart + 1, CELLS)) {
                return false;
            }
            owner.loopEnd = (int) number;
            return true;
        }

        private boolean takePart(int part) {
            if (!takeByte(0, ROWS)) {
                return false;
            }
            song.rows[part] = (int) number;
            for (int row = 0; row < song.rows[part]; row++) {
                if (!takeByte(0, VOICES)) {
                    return false;
                }
                int notes = (int) number;
                song.noteCounts[part * ROWS + row] = notes;
                for (int v = 0; v < notes; v++) {
                    if (!takeNote(song.noteIndex(part, row, v))) {
                        return false;
                    }
                }
            }
            return true;
        }

        private boolean takeNote(int note) {
            if (!takeByte(0, PITCHES + 1)) {
                return false;
            }
            song.pitches[note] = (int) number - 2;
            if (!takeByte(0, INSTRUMENTS)) {
                return false;
            }
            song.players[note] = (int) number - 1;
            if (!takeByte(0, EFFECTS - 1)) {
                return false;
            }
            song.effects[note] = (int) number;
            if (!takeBytes(4)) {
                return false;
            }
            song.arguments[note] = (int) number;
            return true;
        }

        private boolean takeOrder() {
            if (!takeByte(1, PLACES)) {
                return false;
            }
            song.orderSize = (int) number;
            for (int i = 0; i < song.orderSize; i++) {
                if (!takeByte(0, PARTS - 1)) {
                    return false;
                }
                song.order[i] = (int) number;
            }
            return true;
        }

        /** The next byte, if it is in these bounds, becomes the number. */
        private boolean takeByte(int least, int most) {
            int next = source.at(at);
            if (next < least || next > most) {
                return false;
            }
            number = next;
            at++;
            return true;
        }

        /** The next bytes become the number; what ends within them ends too early. */
        private boolean takeBytes(int width) {
            number = 0;
            for (int i = 0; i < width; i++) {
                if (at >= source.length) {
                    return false;
                }
                number = number << 8 | source.at(at);
                at++;
            }
            return true;
        }

        /** Answers how many bytes there are then. */
        int writeTo(Tape out) {
            out.length = 0;
            out.add(FIRST);
            out.add(SECOND);
            for (int k = 0; k < INSTRUMENTS; k++) {
                writeInstrument(out, song.instruments[k]);
            }
            for (int p = 0; p < PARTS; p++) {
                writePart(out, p);
            }
            out.add(song.orderSize);
            for (int i = 0; i < song.orderSize; i++) {
                out.add(song.order[i]);
            }
            return out.length;
        }

        private void writeInstrument(Tape out, Instrument owner) {
            Wave wave = song.waveOf(owner);
            int has = (wave != null ? HAS_WAVE : 0) + (owner.gateSize > 0 ? HAS_GATE : 0);
            out.add(has + (owner.swellSize > 0 ? HAS_SWELL : 0) + (owner.loopEnd > 0 ? HAS_LOOP : 0));
            if (wave != null) {
                writeWave(out, wave);
            }
            if (owner.gateSize > 0) {
                writeGate(out, owner);
            }
            if (owner.swellSize > 0) {
                out.add(owner.swellSize);
                for (int i = 0; i < owner.swellSize; i++) {
                    out.addBytes(owner.swell[i], 4);
                }
            }
            if (owner.loopEnd > 0) {
                out.add(owner.loopStart);
                out.add(owner.loopEnd);
            }
        }

        private void writeWave(Tape out, Wave wave) {
            out.add(wave.kind);
            out.add(wave.size);
            for (int i = 0; i < wave.size; i++) {
                out.addBytes(wave.cells[i], wave.width());
            }
        }

        private void writeGate(Tape out, Instrument owner) {
            out.add(owner.gateSize);
            int eight = 0;
            for (int i = 0; i < owner.gateSize; i++) {
                eight += owner.gate[i] ? 128 >> i % 8 : 0;
                if (i % 8 == 7 || i == owner.gateSize - 1) {
                    out.add(eight);
                    eight = 0;
                }
            }
        }

        private void writePart(Tape out, int part) {
            out.add(song.rows[part]);
            for (int row = 0; row < song.rows[part]; row++) {
                int notes = song.notesOf(part, row);
                out.add(notes);
                for (int v = 0; v < notes; v++) {
                    int note = song.noteIndex(part, row, v);
                    out.add(song.pitches[note] + 2);
                    out.add(song.players[note] + 1);
                    out.add(song.effects[note]);
                    out.addBytes(song.arguments[note], 4);
                }
            }
        }
    }
}
