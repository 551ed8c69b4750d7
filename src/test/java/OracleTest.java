import java.util.Random;

/** Random runs of calls on a house and on the Oracle: each answer is to be the same, and nothing else is thrown. */
public final class OracleTest {
    private static final int RUNS = 1000;

    private final Random random;
    private final TrackerHouse house = new TrackerHouse();
    private final Oracle oracle = new Oracle();
    private final String name;

    private OracleTest(int seed) {
        random = new Random(seed);
        name = "run " + seed + ": ";
    }

    public static void main(String[] args) {
        for (int seed = 0; seed < RUNS; seed++) {
            OracleTest test = new OracleTest(seed);
            try {
                test.run();
            } catch (RuntimeException e) {
                System.out.println(test.name + e);
                e.printStackTrace(System.out);
                Check.due(test.name + "threw", 1, 0);
            }
        }
        Check.finish();
    }

    private void run() {
        for (int i = 0; i < 12; i++) {
            switch (random.nextInt(10)) {
                case 0, 1, 2 -> text();
                case 3, 4 -> container();
                case 5 -> refusing();
                case 6 -> {
                    int size = house.pack();
                    Check.due(name + "pack", size, oracle.pack());
                    for (int b = -1; b <= size; b++) {
                        same("packed", b, 0, house.packed(b), oracle.packed(b));
                    }
                }
                case 7 -> Check.due(name + "take", house.take(), oracle.take());
                case 8 -> Check.due(name + "again", house.again(), oracle.again());
                default -> {
                    int v = random.nextInt(6) - 1;
                    boolean on = random.nextBoolean();
                    Check.due(name + "mute", house.mute(v, on), oracle.mute(v, on));
                }
            }
            compareAll();
            strayCalls();
            for (int p = random.nextInt(6); p > 0; p--) {
                int n = random.nextInt(4) == 0 ? random.nextInt(70) - 2 : 1 + random.nextInt(20);
                Check.due(name + "play " + n, Check.play(house, n), oracle.play(n));
                compareAll();
            }
        }
    }

    private void feed(byte[] bytes) {
        int before = house.look(8);
        for (int i = 0; i < bytes.length; i += 20) {
            int[] n = new int[5];
            for (int j = 0; j < 20; j++) {
                n[j / 4] = n[j / 4] << 8 | (i + j < bytes.length ? bytes[i + j] & 255 : 0);
            }
            Check.due(name + "feed", house.feed(n[0], n[1], n[2], n[3], n[4]), oracle.feed(n));
        }
        int end = before + bytes.length;
        Check.due(name + "end", house.end(end), oracle.end(end));
    }

    private void read(boolean asContainer) {
        Check.due(name + "read", house.read(asContainer), oracle.read(asContainer));
    }

    // ---- modules

    private int within(int least, int most) {
        return least + random.nextInt(most - least + 1);
    }

    private int argument() {
        return switch (random.nextInt(6)) {
            case 0 -> within(-999999999, 999999999);
            case 1 -> within(-3000, 3000);
            case 2 -> 0;
            default -> within(-2, 17);
        };
    }

    private void text() {
        StringBuilder text = new StringBuilder();
        for (int items = within(3, 25); items > 0; items--) {
            item(text);
        }
        if (random.nextInt(10) > 0) {
            text.append("order ");
            for (int i = within(1, 6); i > 0; i--) {
                text.append(random.nextInt(4)).append(' ');
            }
            text.append(";");
        }
        byte[] bytes = Check.bytes(text.toString());
        if (random.nextInt(3) == 0) {
            spoil(bytes, "abwz09- ;,.#\n\rA\u00ff19");
        }
        feed(bytes);
        read(random.nextInt(50) == 0);
    }

    /** Some items of the text are told twice, have too many numbers, or a number that may not stand there. */
    private void item(StringBuilder text) {
        int kind = random.nextInt(8);
        int n = random.nextInt(200) == 0 ? within(-1, 17) : within(0, 3) + (random.nextInt(3) == 0 ? 8 : 0);
        String told = new String[] {"wave", "gate", "swell", "loop", "part"}[Math.min(kind, 4)] + " " + n + " ";
        if (text.indexOf(told) >= 0 && random.nextInt(40) > 0) {
            return;
        }
        text.append(told);
        boolean far = random.nextInt(60) == 0;
        switch (kind) {
            case 0 -> {
                text.append(Oracle.KINDS.get(random.nextInt(7))).append(' ');
                numbers(text, far ? within(60, 66) : within(1, 12), Integer.MIN_VALUE, 0);
            }
            case 1 -> numbers(text, far ? within(30, 34) : within(1, 12), 0, 1);
            case 2 -> numbers(text, far ? within(14, 18) : within(1, 12), 0, 64);
            case 3 -> {
                int a = random.nextInt(6);
                text.append(a).append(' ').append(a + within(1, far ? 70 : 8)).append(' ');
            }
            default -> rows(text, far ? within(30, 34) : within(1, 5));
        }
        text.append(random.nextInt(100) == 0 ? ".;" : ";");
    }

    private void numbers(StringBuilder text, int count, int least, int most) {
        for (int i = 0; i < count; i++) {
            boolean free = least == Integer.MIN_VALUE;
            int number = free ? argument() : random.nextInt(300) == 0 ? within(-2, 70) : within(least, most);
            text.append(number).append(i % 3 == 0 ? "\n" : " ");
        }
    }

    private void rows(StringBuilder text, int count) {
        for (int r = 0; r < count; r++) {
            int notes = count > 20 ? random.nextInt(30) / 29 : random.nextInt(200) == 0 ? 5 : random.nextInt(5);
            for (int v = 0; v < notes; v++) {
                int pitch = random.nextInt(3) == 0 ? -1 : within(-2, 95);
                int inst = random.nextInt(3) == 0 ? -1 : within(0, 4);
                text.append(pitch).append(' ').append(inst).append(' ').append(Oracle.EFFECTS.get(random.nextInt(26)))
                    .append(' ').append(argument()).append(v + 1 < notes ? "," : "");
            }
            text.append(r + 1 < count ? "." : "");
        }
    }

    private void spoil(byte[] bytes, String with) {
        for (int i = within(1, 2); i > 0 && bytes.length > 0; i--) {
            bytes[random.nextInt(bytes.length)] = (byte) with.charAt(random.nextInt(with.length()));
        }
    }

    private void container() {
        byte[] all = Check.row(84, 77);
        for (int k = 0; k < 16; k++) {
            all = Check.join(all, instrument());
        }
        for (int p = 0; p < 16; p++) {
            int rows = p < 4 ? random.nextInt(5) : 0;
            all = Check.join(all, Check.row(rows));
            for (int r = 0; r < rows; r++) {
                int notes = random.nextInt(5);
                all = Check.join(all, Check.row(notes));
                for (int v = 0; v < notes; v++) {
                    int arg = random.nextInt(8) == 0 ? random.nextInt() : argument();
                    arg = random.nextInt(40) == 0 ? Integer.MAX_VALUE : random.nextInt(40) == 0 ? Integer.MIN_VALUE : arg;
                    all = Check.join(all, Check.row(random.nextInt(98), random.nextInt(7), random.nextInt(26)),
                        Check.big(arg, 4));
                }
            }
        }
        int places = within(1, 8);
        all = Check.join(all, Check.row(places));
        for (int i = 0; i < places; i++) {
            all = Check.join(all, Check.row(random.nextInt(4)));
        }
        if (random.nextInt(3) == 0) {
            all[random.nextInt(all.length)] = (byte) random.nextInt(256);
        }
        int cut = random.nextInt(8) == 0 ? random.nextInt(all.length + 1) : all.length;
        feed(java.util.Arrays.copyOf(all, cut));
        read(random.nextInt(50) > 0);
    }

    private byte[] instrument() {
        int has = random.nextInt(16);
        byte[] all = Check.row(has);
        if ((has & 1) != 0) {
            int kind = random.nextInt(7);
            int cells = random.nextInt(20) == 0 ? 64 : within(1, 5);
            all = Check.join(all, Check.row(kind, cells));
            for (int i = 0; i < cells; i++) {
                all = Check.join(all, cell(kind));
            }
        }
        if ((has & 2) != 0) {
            int truths = within(1, 32);
            byte[] eights = new byte[(truths + 7) / 8];
            random.nextBytes(eights);
            if (truths % 8 != 0 && random.nextInt(40) > 0) {
                eights[eights.length - 1] &= (byte) (0xFF00 >> truths % 8);
            }
            all = Check.join(all, Check.row(truths), eights);
        }
        if ((has & 4) != 0) {
            int reals = within(1, 16);
            all = Check.join(all, Check.row(reals));
            for (int i = 0; i < reals; i++) {
                float real = random.nextInt(9) == 0 ? -0f : random.nextInt(9) == 0 ? 1 : random.nextFloat();
                all = Check.join(all, Check.big(Float.floatToIntBits(real), 4));
            }
        }
        if ((has & 8) != 0) {
            int a = random.nextInt(5);
            all = Check.join(all, Check.row(a, within(a + 1, a + 6)));
        }
        return all;
    }

    private byte[] cell(int kind) {
        int width = new int[] {1, 2, 2, 4, 8, 4, 8}[kind];
        if (kind < 5) {
            return Check.big(random.nextLong(), width);
        }
        double real = switch (random.nextInt(8)) {
            case 0 -> -0.0;
            case 1 -> 1000000;
            case 2 -> -1000000;
            case 3 -> width == 4 ? Float.MIN_VALUE * random.nextInt(99) : Double.MIN_VALUE * random.nextInt(99);
            case 4 -> random.nextDouble() * 2000000 - 1000000;
            case 5 -> random.nextInt(60) == 0 ? 1000001 : 3;
            default -> random.nextDouble() * 2 - 1;
        };
        return width == 4 ? Check.big(Float.floatToIntBits((float) real), 4)
            : Check.big(Double.doubleToLongBits(real), 8);
    }

    /** A song of many refusals, so that some runs come to the last one. */
    private void refusing() {
        feed(Check.bytes("wave 0 short 900 800 700 600 500; part 0 0 -1 speed 1, 0 -1 set 0, 0 -1 lose 9, 60 1 set 7;"
            + "part 1 48 0 up 9, 5 1 set 3, 90 0 set 5; order " + Check.repeat("0 0 0 1 ", 8) + ";"));
        read(false);
        for (int i = random.nextInt(5); i > 0; i--) {
            Check.due(name + "play 64", Check.play(house, 64), oracle.play(64));
            compareAll();
            Check.due(name + "again", house.again(), oracle.again());
        }
    }

    // ---- answers

    private int anyInt() {
        return switch (random.nextInt(4)) {
            case 0 -> Integer.MIN_VALUE + random.nextInt(2);
            case 1 -> Integer.MAX_VALUE - random.nextInt(2);
            case 2 -> random.nextInt();
            default -> random.nextInt(20) - 2;
        };
    }

    /** Calls with arguments from all over, none of which may throw but as promised. */
    private void strayCalls() {
        for (int i = 0; i < 5; i++) {
            int a = anyInt();
            int b = anyInt();
            same("look", a, 0, house.look(a), oracle.look(a));
            same("voice", a, b, house.voice(a, b), oracle.voice(a, b));
            same("instrument", a, b, house.instrument(a, b), oracle.instrument(a, b));
            same("cell", a, b, Check.cell(house, a, b), oracle.cell(a, b));
            same("gate", a, b, house.gate(a, b), oracle.gate(a, b));
            same("swell", a, b, house.swell(a, b), oracle.swell(a, b));
            same("frame", a, 0, house.frame(a), oracle.frame(a));
            same("event", a, 0, house.event(a), oracle.event(a));
            same("packed", a, 0, house.packed(a), oracle.packed(a));
            same("end", a, 0, house.end(a) ? 1 : 0, oracle.end(a) ? 1 : 0);
            same("play", a, 0, Check.play(house, a), oracle.play(a));
            same("mute", a, 0, house.mute(a, false) ? 1 : 0, oracle.mute(a, false) ? 1 : 0);
        }
    }

    /** Tells what is not the same; its text is made only then, as there are many millions of answers. */
    private void same(String call, int a, int b, long got, long want) {
        if (got != want) {
            Check.due(name + call + " " + a + " " + b, got, want);
        }
    }

    private void compareAll() {
        for (int what = -1; what < 11; what++) {
            same("look", what, 0, house.look(what), oracle.look(what));
        }
        for (int v = -1; v < 5; v++) {
            for (int what = -1; what < 8; what++) {
                same("voice", v, what, house.voice(v, what), oracle.voice(v, what));
            }
        }
        for (int k = -1; k < 17; k++) {
            for (int what = -1; what < 8; what++) {
                same("instrument", k, what, house.instrument(k, what), oracle.instrument(k, what));
            }
            for (int i = -1; i <= Math.max(0, oracle.instrument(k, 1)); i++) {
                same("cell", k, i, Check.cell(house, k, i), oracle.cell(k, i));
            }
            for (int i = -1; i < 34; i++) {
                same("gate", k, i, house.gate(k, i), oracle.gate(k, i));
            }
            for (int i = -1; i < 18; i++) {
                same("swell", k, i, house.swell(k, i), oracle.swell(k, i));
            }
        }
        int frames = Math.max(0, oracle.look(6));
        for (int f = Math.max(-1, frames - 258); f < frames + 2; f++) {
            same("frame", f, 0, house.frame(f), oracle.frame(f));
        }
        for (int e = -1; e < 103; e++) {
            same("event", e, 0, house.event(e), oracle.event(e));
        }
    }
}
