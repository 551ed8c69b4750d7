import java.io.ByteArrayOutputStream;
import java.lang.reflect.Array;
import java.nio.ByteBuffer;
import java.nio.charset.StandardCharsets;
import java.util.ArrayList;
import java.util.Arrays;
import java.util.List;
import java.util.regex.Matcher;
import java.util.regex.Pattern;

/** A second house, written anew from the document with all of Java's library, for OracleTest to compare with. */
final class Oracle {
    static final List<String> KINDS = List.of("byte", "short", "char", "int", "long", "float", "double");
    static final List<String> EFFECTS = Arrays.asList(("none vol slide up down cut again off speed jump next set add "
        + "mul shr flip bump drop turn shut open swell lend lose copy swap").split(" "));

    private static final class Fault extends Exception {
        private static final long serialVersionUID = 1;
        final int code;

        Fault(int number, int place) {
            code = number + 16 * place;
        }
    }

    private static final class SongEnds extends RuntimeException {
        private static final long serialVersionUID = 1;
    }

    /** A wave is an array of the kind's own type. */
    private static final class Inst {
        Object wave;
        boolean[] gate;
        float[] swell;
        int[] loop;
    }

    private record Note(int pitch, int inst, int effect, int arg) {
    }

    private static final class Module {
        final Inst[] insts = new Inst[16];
        final List<List<List<Note>>> parts = new ArrayList<>();
        List<Integer> order;

        Module() {
            for (int k = 0; k < 16; k++) {
                insts[k] = new Inst();
                parts.add(null);
            }
        }
    }

    private static final class Singer {
        Inst inst;
        int number = -1;
        int pos;
        int step;
        int vol;
        int age;
        boolean on;
    }

    private final ByteArrayOutputStream tape = new ByteArrayOutputStream();
    private final boolean[] muted = new boolean[4];
    private byte[] container;
    private Module module;
    private Singer[] singers;
    private int place;
    private int row;
    private int tick;
    private int speed;
    private boolean over;
    private int ticks;
    private int refusals;
    private int[] leap;
    private List<Integer> frames = new ArrayList<>();
    private List<Integer> events = new ArrayList<>();

    private void begin() {
        singers = new Singer[] {new Singer(), new Singer(), new Singer(), new Singer()};
        place = row = tick = ticks = 0;
        speed = 6;
        over = false;
        leap = null;
        frames = new ArrayList<>();
        events = new ArrayList<>();
    }

    boolean feed(int... numbers) {
        if (tape.size() + 20 > 6000) {
            return false;
        }
        for (int number : numbers) {
            tape.writeBytes(ByteBuffer.allocate(4).putInt(number).array());
        }
        return true;
    }

    boolean end(int n) {
        if (n < 0 || n > tape.size()) {
            return false;
        }
        byte[] all = tape.toByteArray();
        tape.reset();
        tape.write(all, 0, n);
        return true;
    }

    int read(boolean asContainer) {
        byte[] bytes = tape.toByteArray();
        tape.reset();
        module = null;
        try {
            module = asContainer ? new Unpacker(bytes).all() : new Parser(bytes).all();
            begin();
            return 0;
        } catch (Fault fault) {
            return fault.code;
        }
    }

    // ---- texts

    private static final class Parser {
        private static final Pattern BLANK = Pattern.compile("(?:[\\t\\n\\r ]|#[^\\n]*)*");
        private static final Pattern RUN = Pattern.compile("[a-z]+|-?[0-9]+|[;,.]");
        final String text;
        int at;
        int from;
        /** null at the end. */
        String token;

        Parser(byte[] bytes) {
            text = new String(bytes, StandardCharsets.ISO_8859_1);
        }

        void next() throws Fault {
            Matcher blank = BLANK.matcher(text).region(at, text.length());
            blank.lookingAt();
            from = blank.end();
            at = from;
            token = null;
            if (from == text.length()) {
                return;
            }
            Matcher run = RUN.matcher(text).region(from, text.length());
            if (!run.lookingAt()) {
                throw new Fault(1, from);
            }
            token = run.group();
            at = run.end();
            boolean good = Character.isLetter(token.charAt(0)) ? token.length() <= 8
                : token.replace("-", "").length() <= 9;
            if (!good) {
                throw new Fault(1, from);
            }
        }

        boolean is(String sign) {
            return sign.equals(token);
        }

        int here(int least, int most) throws Fault {
            if (token == null || !token.matches("-?[0-9]+")) {
                throw new Fault(2, from);
            }
            int number = Integer.parseInt(token);
            if (number < least || number > most) {
                throw new Fault(3, from);
            }
            return number;
        }

        int number(int least, int most) throws Fault {
            next();
            return here(least, most);
        }

        int word(List<String> words) throws Fault {
            next();
            int index = token == null ? -1 : words.indexOf(token);
            if (index < 0) {
                throw new Fault(2, from);
            }
            return index;
        }

        List<Integer> list(int least, int most, int room) throws Fault {
            List<Integer> all = new ArrayList<>();
            next();
            do {
                int number = here(least, most);
                if (all.size() == room) {
                    throw new Fault(5, from);
                }
                all.add(number);
                next();
            } while (!is(";"));
            return all;
        }

        void once(boolean told) throws Fault {
            if (told) {
                throw new Fault(4, from);
            }
        }

        Module all() throws Fault {
            Module made = new Module();
            for (next(); token != null; next()) {
                item(made);
            }
            if (made.order == null) {
                throw new Fault(6, text.length());
            }
            return made;
        }

        void item(Module made) throws Fault {
            String item = token;
            if (item.equals("order")) {
                once(made.order != null);
                made.order = list(0, 15, 32);
                return;
            }
            if (!List.of("wave", "gate", "swell", "loop", "part").contains(item)) {
                throw new Fault(2, from);
            }
            int n = number(0, 15);
            Inst inst = made.insts[n];
            switch (item) {
                case "wave" -> {
                    once(inst.wave != null);
                    int kind = word(KINDS);
                    List<Integer> numbers = list(Integer.MIN_VALUE, Integer.MAX_VALUE, 64);
                    inst.wave = newWave(kind, numbers.size());
                    for (int i = 0; i < numbers.size(); i++) {
                        act(inst.wave, i, 11, numbers.get(i));
                    }
                }
                case "gate" -> {
                    once(inst.gate != null);
                    List<Integer> numbers = list(0, 1, 32);
                    inst.gate = new boolean[numbers.size()];
                    for (int i = 0; i < numbers.size(); i++) {
                        inst.gate[i] = numbers.get(i) != 0;
                    }
                }
                case "swell" -> {
                    once(inst.swell != null);
                    List<Integer> numbers = list(0, 64, 16);
                    inst.swell = new float[numbers.size()];
                    for (int i = 0; i < numbers.size(); i++) {
                        inst.swell[i] = numbers.get(i) / 64f;
                    }
                }
                case "loop" -> {
                    once(inst.loop != null);
                    int a = number(0, 63);
                    int b = number(a + 1, 64);
                    inst.loop = new int[] {a, b};
                    next();
                    if (!is(";")) {
                        throw new Fault(2, from);
                    }
                }
                default -> {
                    once(made.parts.get(n) != null);
                    made.parts.set(n, rows());
                }
            }
        }

        List<List<Note>> rows() throws Fault {
            List<List<Note>> rows = new ArrayList<>();
            do {
                next();
                List<Note> notes = new ArrayList<>();
                while (!is(".") && !is(";")) {
                    int pitch = here(-2, 95);
                    if (rows.size() == 32 || notes.size() == 4) {
                        throw new Fault(5, from);
                    }
                    notes.add(new Note(pitch, number(-1, 15), word(EFFECTS),
                        number(Integer.MIN_VALUE, Integer.MAX_VALUE)));
                    next();
                    if (is(",")) {
                        next();
                        here(Integer.MIN_VALUE, Integer.MAX_VALUE);
                    } else if (!is(".") && !is(";")) {
                        throw new Fault(2, from);
                    }
                }
                if (rows.size() == 32) {
                    throw new Fault(5, from);
                }
                rows.add(notes);
            } while (!is(";"));
            return rows;
        }
    }

    // ---- containers

    private static final class Unpacker {
        final byte[] bytes;
        int at;

        Unpacker(byte[] bytes) {
            this.bytes = bytes;
        }

        int one(int least, int most) throws Fault {
            if (at == bytes.length || (bytes[at] & 255) < least || (bytes[at] & 255) > most) {
                throw new Fault(7, at);
            }
            return bytes[at++] & 255;
        }

        ByteBuffer some(int width) throws Fault {
            if (at + width > bytes.length) {
                throw new Fault(7, bytes.length);
            }
            at += width;
            return ByteBuffer.wrap(bytes, at - width, width);
        }

        double real(int width, double least, double most) throws Fault {
            ByteBuffer some = some(width);
            double real = width == 4 ? some.getFloat() : some.getDouble();
            if (!(real >= least && real <= most)) {
                throw new Fault(7, at - width);
            }
            return real;
        }

        Module all() throws Fault {
            one(84, 84);
            one(77, 77);
            Module made = new Module();
            for (Inst inst : made.insts) {
                inst(inst);
            }
            for (int p = 0; p < 16; p++) {
                int rows = one(0, 32);
                if (rows > 0) {
                    made.parts.set(p, rows(rows));
                }
            }
            made.order = new ArrayList<>();
            for (int left = one(1, 32); left > 0; left--) {
                made.order.add(one(0, 15));
            }
            if (at < bytes.length) {
                throw new Fault(7, at);
            }
            return made;
        }

        void inst(Inst inst) throws Fault {
            int has = one(0, 15);
            if ((has & 1) != 0) {
                int kind = one(0, 6);
                inst.wave = newWave(kind, one(1, 64));
                for (int i = 0; i < Array.getLength(inst.wave); i++) {
                    switch (kind) {
                        case 0 -> Array.setByte(inst.wave, i, some(1).get());
                        case 1 -> Array.setShort(inst.wave, i, some(2).getShort());
                        case 2 -> Array.setChar(inst.wave, i, some(2).getChar());
                        case 3 -> Array.setInt(inst.wave, i, some(4).getInt());
                        case 4 -> Array.setLong(inst.wave, i, some(8).getLong());
                        case 5 -> Array.setFloat(inst.wave, i, (float) real(4, -1e6, 1e6));
                        default -> Array.setDouble(inst.wave, i, real(8, -1e6, 1e6));
                    }
                }
            }
            if ((has & 2) != 0) {
                inst.gate = new boolean[one(1, 32)];
                for (int i = 0; i < inst.gate.length; i += 8) {
                    int eight = one(0, 255);
                    for (int j = 0; j < 8; j++) {
                        boolean truth = (eight & 128 >> j) != 0;
                        if (i + j < inst.gate.length) {
                            inst.gate[i + j] = truth;
                        } else if (truth) {
                            throw new Fault(7, at - 1);
                        }
                    }
                }
            }
            if ((has & 4) != 0) {
                inst.swell = new float[one(1, 16)];
                for (int i = 0; i < inst.swell.length; i++) {
                    inst.swell[i] = (float) real(4, 0, 1);
                }
            }
            if ((has & 8) != 0) {
                int a = one(0, 63);
                inst.loop = new int[] {a, one(a + 1, 64)};
            }
        }

        List<List<Note>> rows(int count) throws Fault {
            List<List<Note>> rows = new ArrayList<>();
            for (int r = 0; r < count; r++) {
                List<Note> notes = new ArrayList<>();
                for (int left = one(0, 4); left > 0; left--) {
                    notes.add(new Note(one(0, 97) - 2, one(0, 16) - 1, one(0, 25), some(4).getInt()));
                }
                rows.add(notes);
            }
            return rows;
        }
    }

    int pack() {
        if (module == null) {
            return -1;
        }
        ByteBuffer out = ByteBuffer.allocate(30000);
        out.put((byte) 84).put((byte) 77);
        for (Inst inst : module.insts) {
            out.put((byte) ((inst.wave != null ? 1 : 0) | (inst.gate != null ? 2 : 0) | (inst.swell != null ? 4 : 0)
                | (inst.loop != null ? 8 : 0)));
            if (inst.wave != null) {
                out.put((byte) kindOf(inst.wave)).put((byte) Array.getLength(inst.wave));
                for (int i = 0; i < Array.getLength(inst.wave); i++) {
                    packCell(out, Array.get(inst.wave, i));
                }
            }
            if (inst.gate != null) {
                out.put((byte) inst.gate.length);
                byte[] eights = new byte[(inst.gate.length + 7) / 8];
                for (int i = 0; i < inst.gate.length; i++) {
                    eights[i / 8] |= (byte) (inst.gate[i] ? 128 >> i % 8 : 0);
                }
                out.put(eights);
            }
            if (inst.swell != null) {
                out.put((byte) inst.swell.length);
                for (float real : inst.swell) {
                    out.putFloat(real);
                }
            }
            if (inst.loop != null) {
                out.put((byte) inst.loop[0]).put((byte) inst.loop[1]);
            }
        }
        for (List<List<Note>> part : module.parts) {
            out.put((byte) (part == null ? 0 : part.size()));
            for (List<Note> notes : part == null ? List.<List<Note>>of() : part) {
                out.put((byte) notes.size());
                for (Note note : notes) {
                    out.put((byte) (note.pitch + 2)).put((byte) (note.inst + 1)).put((byte) note.effect)
                        .putInt(note.arg);
                }
            }
        }
        out.put((byte) module.order.size());
        for (int number : module.order) {
            out.put((byte) number);
        }
        container = Arrays.copyOf(out.array(), out.position());
        return container.length;
    }

    private static void packCell(ByteBuffer out, Object cell) {
        if (cell instanceof Byte b) {
            out.put(b);
        } else if (cell instanceof Short s) {
            out.putShort(s);
        } else if (cell instanceof Character c) {
            out.putChar(c);
        } else if (cell instanceof Integer i) {
            out.putInt(i);
        } else if (cell instanceof Long l) {
            out.putLong(l);
        } else if (cell instanceof Float f) {
            out.putFloat(f);
        } else if (cell instanceof Double d) {
            out.putDouble(d);
        }
    }

    int packed(int i) {
        return container == null || i < 0 || i >= container.length ? -1 : container[i] & 255;
    }

    boolean take() {
        if (container == null) {
            return false;
        }
        try {
            module = new Unpacker(container).all();
        } catch (Fault fault) {
            throw new IllegalStateException("a packed container has a fault: " + fault.code);
        }
        begin();
        return true;
    }

    // ---- waves

    private static Object newWave(int kind, int size) {
        return switch (kind) {
            case 0 -> new byte[size];
            case 1 -> new short[size];
            case 2 -> new char[size];
            case 3 -> new int[size];
            case 4 -> new long[size];
            case 5 -> new float[size];
            default -> new double[size];
        };
    }

    private static int kindOf(Object wave) {
        return KINDS.indexOf(wave.getClass().getComponentType().getName());
    }

    private static void act(Object wave, int i, int effect, int a) {
        if (wave instanceof float[] w) {
            float x = w[i];
            float y = switch (effect) {
                case 11 -> (float) a / 256f;
                case 12 -> x + (float) a / 256f;
                case 13 -> x * a;
                case 14 -> x / (1 << (a & 15));
                case 15 -> -x;
                case 16 -> x + 1f;
                default -> x - 1f;
            };
            w[i] = Math.max(-1e6f, Math.min(1e6f, y));
        } else if (wave instanceof double[] w) {
            double x = w[i];
            double y = switch (effect) {
                case 11 -> a / 256.0;
                case 12 -> x + a / 256.0;
                case 13 -> x * a;
                case 14 -> x / (1 << (a & 15));
                case 15 -> -x;
                case 16 -> x + 1;
                default -> x - 1;
            };
            w[i] = Math.max(-1e6, Math.min(1e6, y));
        } else {
            long x = wave instanceof char[] c ? c[i] : Array.getLong(wave, i);
            long y = switch (effect) {
                case 11 -> a;
                case 12 -> x + a;
                case 13 -> x * a;
                case 14 -> x >> (a & 15);
                case 15 -> ~x;
                case 16 -> x + 1;
                default -> x - 1;
            };
            switch (kindOf(wave)) {
                case 0 -> Array.setByte(wave, i, (byte) y);
                case 1 -> Array.setShort(wave, i, (short) y);
                case 2 -> Array.setChar(wave, i, (char) y);
                case 3 -> Array.setInt(wave, i, (int) y);
                default -> Array.setLong(wave, i, y);
            }
        }
    }

    private static int whole(Object wave, int i) {
        if (wave instanceof byte[] w) {
            return w[i] * 256;
        } else if (wave instanceof short[] w) {
            return w[i];
        } else if (wave instanceof char[] w) {
            return w[i] - 32768;
        } else if (wave instanceof int[] w) {
            return Math.floorDiv(w[i], 1 << 16);
        } else if (wave instanceof long[] w) {
            return (int) Math.floorDiv(w[i], 1L << 48);
        }
        double real = Array.getDouble(wave, i) * 32768;
        return (int) Math.max(-32768, Math.min(32767, real));
    }

    // ---- playing

    boolean again() {
        if (module != null) {
            begin();
        }
        return module != null;
    }

    int play(int n) {
        if (n < 1 || n > 64) {
            return Check.BAD_ARGUMENT;
        }
        if (module == null) {
            return Check.NO_ELEMENT;
        }
        int made = 0;
        for (; made < n && !over; made++) {
            try {
                tick();
            } catch (SongEnds e) {
                over = true;
            }
        }
        return made;
    }

    private void refuse(int number, int v) {
        if (refusals == 1000) {
            throw new SongEnds();
        }
        refusals++;
        events.add(number + 16 * v + 128 * ticks);
    }

    private void tick() {
        List<List<Note>> part = module.parts.get(module.order.get(place));
        if (part == null && tick == 0) {
            events.add(64 + 128 * ticks);
        }
        List<Note> notes = part == null || row >= part.size() ? List.of() : part.get(row);
        for (int v = 0; v < notes.size(); v++) {
            if (tick == 0) {
                strike(v, notes.get(v));
                effect(v, notes.get(v).effect, notes.get(v).arg);
            } else {
                later(singers[v], notes.get(v).effect, notes.get(v).arg);
            }
        }
        for (int f = 0; f < 4; f++) {
            long sum = 0;
            for (int v = 0; v < 4; v++) {
                int amount = singers[v].on ? amount(v) : 0;
                sum += muted[v] ? 0 : amount;
            }
            frames.add((int) Math.max(-32768, Math.min(32767, sum)));
        }
        for (Singer singer : singers) {
            singer.age += singer.on ? 1 : 0;
        }
        ticks++;
        if (++tick < speed) {
            return;
        }
        tick = 0;
        boolean last = part == null || row >= part.size() - 1;
        int[] comes = leap != null ? leap : last ? new int[] {place + 1, 0} : new int[] {place, row + 1};
        leap = null;
        place = comes[0];
        row = comes[1];
        over = place >= module.order.size();
    }

    private void strike(int v, Note note) {
        Singer s = singers[v];
        if (note.inst >= 0) {
            s.number = note.inst;
            s.inst = module.insts[note.inst];
            s.vol = 64;
        }
        if (note.pitch == -2) {
            s.on = false;
        } else if (note.pitch >= 0 && s.inst == null) {
            refuse(1, v);
        } else if (note.pitch >= 0) {
            int[] r = {256, 271, 287, 304, 322, 342, 362, 384, 406, 431, 456, 483};
            s.on = true;
            s.pos = 0;
            s.age = 0;
            s.step = (int) (r[note.pitch % 12] * Math.pow(2, note.pitch / 12) / 16);
        }
    }

    private static int within(long number, int least, int most) {
        return (int) Math.max(least, Math.min(most, number));
    }

    private void later(Singer s, int effect, int a) {
        switch (EFFECTS.get(effect)) {
            case "slide" -> s.vol = within((long) s.vol + a, 0, 64);
            case "up" -> s.step = within((long) s.step + a, 0, 65535);
            case "down" -> s.step = within((long) s.step - a, 0, 65535);
            case "cut" -> s.vol = tick == a ? 0 : s.vol;
            case "again" -> {
                if (a > 0 && tick % a == 0 && s.inst != null) {
                    s.pos = 0;
                    s.age = 0;
                    s.on = true;
                }
            }
            default -> { }
        }
    }

    private void effect(int v, int effect, int a) {
        Singer s = singers[v];
        switch (EFFECTS.get(effect)) {
            case "vol" -> s.vol = within(a, 0, 64);
            case "cut" -> s.vol = a == 0 ? 0 : s.vol;
            case "off" -> s.pos = 256 * within(a, 0, 1000);
            case "speed" -> speed = within(a, 1, 12);
            case "jump" -> leap = new int[] {Math.max(0, a), 0};
            case "next" -> leap = new int[] {place + 1, Math.max(0, a)};
            default -> {
                if (effect >= 11 && s.inst == null) {
                    refuse(1, v);
                } else if (effect >= 11) {
                    onInstrument(v, s, effect, a);
                }
            }
        }
    }

    private void onInstrument(int v, Singer s, int effect, int a) {
        Inst own = s.inst;
        String word = EFFECTS.get(effect);
        Inst other = a >= 0 && a < 16 ? module.insts[a] : null;
        if (effect <= 17) {
            int reason = own.wave == null ? 2 : s.pos / 256 >= Array.getLength(own.wave) ? 3 : 0;
            if (reason > 0) {
                refuse(reason, v);
            } else {
                act(own.wave, s.pos / 256, effect, a);
            }
        } else if (effect <= 20) {
            int reason = own.gate == null ? 4 : a < 0 || a >= own.gate.length ? 5 : 0;
            if (reason > 0) {
                refuse(reason, v);
            } else {
                own.gate[a] = word.equals("open") || word.equals("turn") && !own.gate[a];
            }
        } else if (word.equals("swell")) {
            int reason = own.swell == null ? 6 : s.age >= own.swell.length ? 7 : 0;
            if (reason > 0) {
                refuse(reason, v);
            } else {
                own.swell[s.age] = Math.max(0f, Math.min(1f, own.swell[s.age] + a / 64f));
            }
        } else if (word.equals("lend")) {
            own.wave = other != null ? other.wave : own.wave;
        } else if (word.equals("lose")) {
            own.wave = null;
        } else if (word.equals("copy")) {
            boolean missing = own.wave == null || other != null && other.wave == null;
            if (missing) {
                refuse(2, v);
            } else if (other == null || other.wave.getClass() != own.wave.getClass()) {
                refuse(8, v);
            } else {
                int count = Math.min(Array.getLength(own.wave), Array.getLength(other.wave));
                System.arraycopy(other.wave, 0, own.wave, 0, count);
            }
        } else {
            int reason = own.wave == null ? 2 : a < 0 || a >= Array.getLength(own.wave) ? 3 : 0;
            if (reason > 0) {
                refuse(reason, v);
            } else {
                Object first = Array.get(own.wave, 0);
                Array.set(own.wave, 0, Array.get(own.wave, a));
                Array.set(own.wave, a, first);
            }
        }
    }

    private int amount(int v) {
        Singer s = singers[v];
        Inst inst = s.inst;
        int reason = inst.wave == null ? 2 : s.pos / 256 >= Array.getLength(inst.wave) ? 3 : 0;
        if (reason > 0) {
            refuse(reason, v);
            s.on = false;
            return 0;
        }
        int amount = whole(inst.wave, s.pos / 256) * s.vol / 64;
        if (inst.gate != null && !inst.gate[s.age % inst.gate.length]) {
            amount = 0;
        }
        if (inst.swell != null) {
            amount = (int) ((float) amount * inst.swell[Math.min(s.age, inst.swell.length - 1)]);
        }
        s.pos += s.step;
        while (inst.loop != null && s.pos / 256 >= inst.loop[1]) {
            s.pos -= 256 * (inst.loop[1] - inst.loop[0]);
        }
        return amount;
    }

    // ---- looking

    boolean mute(int v, boolean on) {
        if (v < 0 || v > 3) {
            return false;
        }
        muted[v] = on;
        return true;
    }

    int look(int what) {
        if (what == 8) {
            return tape.size();
        }
        if (module == null || what < 0 || what > 9) {
            return -1;
        }
        return new int[] {place, row, tick, speed, over ? 1 : 0, refusals, frames.size(), events.size(), 0,
            module.order.size()}[what];
    }

    int voice(int v, int what) {
        if (module == null || v < 0 || v > 3 || what < 0 || what > 6) {
            return -1;
        }
        Singer s = singers[v];
        return new int[] {s.number, s.pos, s.step, s.vol, s.age, s.on ? 1 : 0, muted[v] ? 1 : 0}[what];
    }

    private Inst inst(int k) {
        return module == null || k < 0 || k > 15 ? new Inst() : module.insts[k];
    }

    int instrument(int k, int what) {
        Inst inst = inst(k);
        switch (what) {
            case 0: return inst.wave == null ? -1 : kindOf(inst.wave);
            case 1: return inst.wave == null ? -1 : Array.getLength(inst.wave);
            case 2: return inst.gate == null ? -1 : inst.gate.length;
            case 3: return inst.swell == null ? -1 : inst.swell.length;
            case 4: return inst.loop == null ? -1 : inst.loop[0];
            case 5: return inst.loop == null ? -1 : inst.loop[1];
            case 6:
                for (int j = 0; inst.wave != null && j < 16; j++) {
                    if (module.insts[j].wave == inst.wave) {
                        return j;
                    }
                }
                return -1;
            default: return -1;
        }
    }

    long cell(int k, int i) {
        Object wave = inst(k).wave;
        if (wave == null || i < 0 || i >= Array.getLength(wave)) {
            return Check.NO_CELL;
        }
        if (wave instanceof float[] w) {
            return Float.floatToRawIntBits(w[i]);
        } else if (wave instanceof double[] w) {
            return Double.doubleToRawLongBits(w[i]);
        }
        return Array.getLong(wave, i);
    }

    int gate(int k, int i) {
        boolean[] gate = inst(k).gate;
        return gate == null || i < 0 || i >= gate.length ? -1 : gate[i] ? 1 : 0;
    }

    int swell(int k, int i) {
        float[] swell = inst(k).swell;
        return swell == null || i < 0 || i >= swell.length ? -1 : Float.floatToRawIntBits(swell[i]);
    }

    int frame(int k) {
        boolean kept = module != null && k >= 0 && k < frames.size() && k >= frames.size() - 256;
        return kept ? frames.get(k) : 40000;
    }

    int event(int k) {
        return module == null || k < 0 || k >= Math.min(100, events.size()) ? -1 : events.get(k);
    }
}
