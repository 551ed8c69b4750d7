/** Texts for tests. */
final class Texts {
    static final String[] KINDS = {"byte", "short", "char", "int", "long", "float", "double"};
    static final int[] WIDTHS = {1, 2, 2, 4, 8, 4, 8};
    static final String[] EFFECTS = ("none vol slide up down cut again off speed jump next set add mul shr flip bump drop"
        + " turn shut open swell lend lose copy swap").split(" ");

    private Texts() {
    }

    /** The fault that a text has where its first | stands, which is taken out; behind it is no module and no tape. */
    static void fault(int number, String marked) {
        int place = marked.indexOf('|');
        Run run = Run.of("wave 0 byte 1; order 0;");
        run.feed(Check.bytes(marked.substring(0, place) + marked.substring(place + 1)));
        Check.due("read of \"" + marked + "\"", run.read(false), number + 16L * place);
        Check.due("no module behind \"" + marked + "\"", run.look(9), -1);
        Check.due("no tape behind \"" + marked + "\"", run.look(8), 0);
    }

    static String times(String text, int times) {
        return text.repeat(times);
    }

    /** Numbers 1 to the last one, each with a blank behind it. */
    static String numbers(int last) {
        StringBuilder all = new StringBuilder();
        for (int i = 1; i <= last; i++) {
            all.append(i).append(' ');
        }
        return all.toString();
    }

    static long bits(float real) {
        return Float.floatToIntBits(real);
    }

    static long bits(double real) {
        return Double.doubleToLongBits(real);
    }

    /** What cell() answers of a number that is PUT to a cell of a KIND, by the machine's own types. */
    static long put(int kind, int v) {
        switch (kind) {
            case 5: return bits(Math.max(-1000000f, Math.min(1000000f, v / 256f)));
            case 6: return bits(Math.max(-1000000.0, Math.min(1000000.0, v / 256.0)));
            default: return lowest(kind, v);
        }
    }

    /** A whole's lowest bytes as a KIND has them. */
    static long lowest(int kind, long number) {
        switch (kind) {
            case 0: return (byte) number;
            case 1: return (short) number;
            case 2: return (char) number;
            case 3: return (int) number;
            default: return number;
        }
    }
}
