import java.util.Random;

/** Reals of CELLS and SWELLS against the machine's own: their bits, rounding, holding, and the sign of 0. */
public final class RealsTest {
    private static final int[] ARGUMENTS = {0, 1, -1, 2, 3, 7, -7, 15, 16, 255, 256, -256, 257, 16777217, 16777219,
        999999999, -999999999, Integer.MAX_VALUE, Integer.MIN_VALUE, 255999999, 256000000, 256000001, 33554433};

    public static void main(String[] args) {
        float[] floats = floats(new Random(1));
        for (float old : floats) {
            for (int effect = 11; effect < 18; effect++) {
                narrow(old, effect);
            }
        }
        double[] doubles = doubles(new Random(2));
        for (double old : doubles) {
            for (int effect = 11; effect < 18; effect++) {
                wide(old, effect);
            }
        }
        swells(new Random(3));
        Check.finish();
    }

    private static float[] floats(Random random) {
        float[] edges = {0, -0f, 1, -1, 0.5f, 1000000, -1000000, 999999.94f, Float.MIN_VALUE, -Float.MIN_VALUE,
            Float.MIN_NORMAL, Math.nextDown(Float.MIN_NORMAL), 3 * Float.MIN_VALUE, 5 * Float.MIN_VALUE,
            Math.nextUp(Float.MIN_NORMAL * 16), 1 / 256f, -1 / 256f, 8388607f / 16, 0.1f, -0.3f};
        float[] all = java.util.Arrays.copyOf(edges, 60);
        for (int i = edges.length; i < all.length; i++) {
            float real = Float.intBitsToFloat(random.nextInt());
            boolean may = real >= -1000000 && real <= 1000000;
            all[i] = may ? real : random.nextFloat() * 2000000 - 1000000;
        }
        return all;
    }

    private static double[] doubles(Random random) {
        double[] edges = {0, -0.0, 1, -1, 0.5, 1000000, -1000000, 999999.9999999999, Double.MIN_VALUE,
            -Double.MIN_VALUE, Double.MIN_NORMAL, Math.nextDown(Double.MIN_NORMAL), 3 * Double.MIN_VALUE,
            5 * Double.MIN_VALUE, Math.nextUp(Double.MIN_NORMAL * 16), 1 / 256.0, -1 / 256.0, 0.1, -0.3};
        double[] all = java.util.Arrays.copyOf(edges, 60);
        for (int i = edges.length; i < all.length; i++) {
            double real = Double.longBitsToDouble(random.nextLong());
            boolean may = real >= -1000000 && real <= 1000000;
            all[i] = may ? real : random.nextDouble() * 2000000 - 1000000;
        }
        return all;
    }

    private static TrackerHouse played(int kind, byte[] old, int effect, int a) {
        byte[] container = Check.join(Check.row(84, 77, 1, kind, 1), old, new byte[15],
            Check.row(1, 1, 1, 1, effect), Check.big(a, 4), new byte[15], Check.row(1, 0));
        TrackerHouse house = Check.house(container);
        Check.play(house, 1);
        return house;
    }

    private static void narrow(float old, int effect) {
        for (int a : ARGUMENTS) {
            float made;
            switch (effect) {
                case 11: made = a / 256f; break;
                case 12: made = old + a / 256f; break;
                case 13: made = (float) a * old; break;
                case 14: made = old / (1 << (a & 15)); break;
                case 15: made = -old; break;
                case 16: made = old + 1; break;
                default: made = old - 1; break;
            }
            float due = made > 1000000 ? 1000000 : made < -1000000 ? -1000000 : made;
            TrackerHouse house = played(5, Check.big(Float.floatToIntBits(old), 4), effect, a);
            Check.due("float " + old + " effect " + effect + " " + a, Check.cell(house, 0, 0),
                Float.floatToIntBits(due));
        }
    }

    private static void wide(double old, int effect) {
        for (int a : ARGUMENTS) {
            double made;
            switch (effect) {
                case 11: made = a / 256.0; break;
                case 12: made = old + a / 256.0; break;
                case 13: made = (double) a * old; break;
                case 14: made = old / (1 << (a & 15)); break;
                case 15: made = -old; break;
                case 16: made = old + 1; break;
                default: made = old - 1; break;
            }
            double due = made > 1000000 ? 1000000 : made < -1000000 ? -1000000 : made;
            TrackerHouse house = played(6, Check.big(Double.doubleToLongBits(old), 8), effect, a);
            Check.due("double " + old + " effect " + effect + " " + a, Check.cell(house, 0, 0),
                Double.doubleToLongBits(due));
        }
    }

    private static void swells(Random random) {
        float[] reals = {0, -0f, 1, 0.5f, Float.MIN_VALUE, Math.nextDown(1f), 1 / 64f, 1 / 3f, Float.MIN_NORMAL,
            random.nextFloat(), random.nextFloat(), random.nextFloat()};
        int[] more = {0, 1, -1, 63, 64, -64, -63, 65, 21, -21, Integer.MAX_VALUE, Integer.MIN_VALUE};
        for (float old : reals) {
            for (int a : more) {
                float made = old + a / 64f;
                float due = made > 1 ? 1 : made < 0 ? 0 : made;
                byte[] container = Check.join(Check.row(84, 77, 5, 1, 1, 0x70, 0x01, 1),
                    Check.big(Float.floatToIntBits(old), 4), new byte[15], Check.row(1, 1, 2, 1, 21), Check.big(a, 4),
                    new byte[15], Check.row(1, 0));
                TrackerHouse house = Check.house(container);
                Check.play(house, 1);
                Check.due("swell " + old + " " + a, house.swell(0, 0), Float.floatToIntBits(due));
                Check.due("frame of " + due, house.frame(0), (int) (28673f * due));
            }
        }
    }
}
