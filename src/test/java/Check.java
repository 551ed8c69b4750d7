import java.io.ByteArrayOutputStream;
import java.nio.charset.StandardCharsets;

/** What the tests share: telling wrong answers, and bringing bytes to a tape. */
final class Check {
    private static int wrong = 0;
    private static String sentence = "";

    private Check() {
    }

    /** The document's sentence that the next answers are due by; wrong ones are told with it. */
    static void by(String words) {
        sentence = "\"" + words + "\": ";
    }

    static void due(String what, long got, long want) {
        if (got != want) {
            wrong(what + " answered " + got + ", due is " + want);
        }
    }

    /** Tells the first hundred of what is wrong, and counts the rest. */
    static void wrong(String what) {
        wrong++;
        if (wrong <= 100) {
            System.out.println(sentence + what);
        }
    }

    static void due(String what, boolean got, boolean want) {
        due(what, got ? 1 : 0, want ? 1 : 0);
    }

    static void finish() {
        System.out.println(wrong == 0 ? "all answers are as due" : wrong + " answers are not as due");
        if (wrong != 0) {
            System.exit(1);
        }
    }

    static byte[] bytes(String text) {
        return text.getBytes(StandardCharsets.ISO_8859_1);
    }

    static boolean feed(TrackerHouse house, byte[] bytes) {
        int before = house.look(8);
        for (int i = 0; i < bytes.length; i += 20) {
            int[] n = new int[5];
            for (int j = 0; j < 20; j++) {
                int b = i + j < bytes.length ? bytes[i + j] & 255 : 0;
                n[j / 4] = n[j / 4] << 8 | b;
            }
            if (!house.feed(n[0], n[1], n[2], n[3], n[4])) {
                return false;
            }
        }
        return house.end(before + bytes.length);
    }

    static int read(TrackerHouse house, String text) {
        feed(house, bytes(text));
        return house.read(false);
    }

    static int read(TrackerHouse house, byte[] container) {
        feed(house, container);
        return house.read(true);
    }

    /** A house whose module the text tells; a text with a fault is told as wrong. */
    static TrackerHouse house(String text) {
        TrackerHouse house = new TrackerHouse();
        due("read of \"" + text + "\"", read(house, text), 0);
        return house;
    }

    static TrackerHouse house(byte[] container) {
        TrackerHouse house = new TrackerHouse();
        due("read of a container", read(house, container), 0);
        return house;
    }

    static byte[] packed(TrackerHouse house) {
        byte[] bytes = new byte[Math.max(0, house.pack())];
        for (int i = 0; i < bytes.length; i++) {
            bytes[i] = (byte) house.packed(i);
        }
        return bytes;
    }

    /** Bytes told as numbers. */
    static byte[] row(int... numbers) {
        byte[] bytes = new byte[numbers.length];
        for (int i = 0; i < bytes.length; i++) {
            bytes[i] = (byte) numbers[i];
        }
        return bytes;
    }

    static byte[] join(byte[]... rows) {
        ByteArrayOutputStream all = new ByteArrayOutputStream();
        for (byte[] row : rows) {
            all.writeBytes(row);
        }
        return all.toByteArray();
    }

    static byte[] big(long number, int width) {
        byte[] bytes = new byte[width];
        for (int i = 0; i < width; i++) {
            bytes[i] = (byte) (number >> 8 * (width - 1 - i));
        }
        return bytes;
    }

    /** The long that cell() answers, or a number that no test awaits where it throws. */
    static final long NO_CELL = 0x7BADBADBADL;

    static long cell(TrackerHouse house, int k, int i) {
        try {
            return house.cell(k, i);
        } catch (java.util.NoSuchElementException e) {
            return NO_CELL;
        }
    }

    static final int BAD_ARGUMENT = -101;
    static final int NO_ELEMENT = -102;

    static int play(TrackerHouse house, int n) {
        try {
            return house.play(n);
        } catch (IllegalArgumentException e) {
            return BAD_ARGUMENT;
        } catch (java.util.NoSuchElementException e) {
            return NO_ELEMENT;
        }
    }

    static String repeat(String text, int times) {
        return text.repeat(times);
    }
}
