/** Promise 4 with texts, and what promises 10 to 13 tell of them. */
public final class TextTest {
    public static void main(String[] args) {
        waves();
        shapes();
        tokens();
        faultsOfTokens();
        faultsOfNumbers();
        faultsToldTwice();
        faultsOfTooMany();
        faultsAndModule();
        Check.finish();
    }

    /** The fault that a text has where its first | stands, which is taken out. */
    private static void fault(int number, String marked) {
        int place = marked.indexOf('|');
        String text = marked.substring(0, place) + marked.substring(place + 1);
        TrackerHouse house = new TrackerHouse();
        Check.due("read of \"" + marked + "\"", Check.read(house, text), number + 16L * place);
        Check.due("no module behind \"" + marked + "\"", house.look(0), -1);
        Check.due("no tape behind \"" + marked + "\"", house.look(8), 0);
    }

    private static void waves() {
        TrackerHouse house = Check.house("wave 0 byte 1 -1 128 300 -0; wave 1 short 32768 -32769 70000;"
            + "wave 2 char -1 65536 32768; wave 3 int 999999999 -999999999; wave 4 long 999999999 -1;"
            + "wave 5 float 256 -128 999999999 -999999999 1 0 -0 16777217 16777219; "
            + "wave 15 double 256 -128 999999999 -999999999 1 -0 123456789; order 15;");
        long[][] due = {
            {1, -1, -128, 44, 0},
            {-32768, 32767, 4464},
            {65535, 0, 32768},
            {999999999, -999999999},
            {999999999, -1},
            {bits(1f), bits(-0.5f), bits(1000000f), bits(-1000000f), bits(1 / 256f), 0, 0,
                bits(65536f), bits(65536.015625f)},
        };
        for (int k = 0; k < due.length; k++) {
            Check.due("kind " + k, house.instrument(k, 0), k);
            Check.due("cells " + k, house.instrument(k, 1), due[k].length);
            for (int i = 0; i < due[k].length; i++) {
                Check.due("cell " + k + " " + i, Check.cell(house, k, i), due[k][i]);
            }
            Check.due("cell beyond", Check.cell(house, k, due[k].length), Check.NO_CELL);
            Check.due("cell below", Check.cell(house, k, -1), Check.NO_CELL);
            Check.due("sharer", house.instrument(k, 6), k);
        }
        double[] doubles = {1, -0.5, 1000000, -1000000, 1 / 256.0, 0, 123456789 / 256.0};
        Check.due("kind 15", house.instrument(15, 0), 6);
        for (int i = 0; i < doubles.length; i++) {
            Check.due("double " + i, Check.cell(house, 15, i), Double.doubleToLongBits(doubles[i]));
        }
        Check.due("no wave", house.instrument(6, 0), -1);
        Check.due("no wave", house.instrument(6, 1), -1);
        Check.due("no wave", house.instrument(6, 6), -1);
        Check.due("no wave's cell", Check.cell(house, 6, 0), Check.NO_CELL);
        Check.due("no instrument", house.instrument(16, 0), -1);
        Check.due("no instrument", house.instrument(-1, 0), -1);
        Check.due("no instrument's cell", Check.cell(house, 16, 0), Check.NO_CELL);
        Check.due("no instrument's cell", Check.cell(house, -1, 0), Check.NO_CELL);
        Check.due("no such what", house.instrument(0, 7), -1);
        Check.due("no such what", house.instrument(0, -1), -1);
        Check.house("wave 0 int " + Check.repeat("7 ", 64) + "; order 0;");
    }

    private static long bits(float real) {
        return Float.floatToIntBits(real);
    }

    private static void shapes() {
        TrackerHouse house = Check.house("gate 3 1 0 0 1; swell 3 0 64 32 1 63; loop 3 2 5; loop 4 63 64; loop 5 0 1;"
            + "gate 0 " + Check.repeat("1 ", 32) + "; swell 0 " + Check.repeat("64 ", 16) + "; order "
            + Check.repeat("3 ", 32) + ";");
        int[] truths = {1, 0, 0, 1};
        Check.due("truths", house.instrument(3, 2), 4);
        for (int i = 0; i < 4; i++) {
            Check.due("truth " + i, house.gate(3, i), truths[i]);
        }
        Check.due("truth beyond", house.gate(3, 4), -1);
        Check.due("truth below", house.gate(3, -1), -1);
        Check.due("no gate", house.gate(4, 0), -1);
        Check.due("no instrument's gate", house.gate(16, 0), -1);
        Check.due("no instrument's gate", house.gate(-1, 0), -1);
        float[] reals = {0, 1, 0.5f, 1 / 64f, 63 / 64f};
        Check.due("reals", house.instrument(3, 3), 5);
        for (int i = 0; i < 5; i++) {
            Check.due("real " + i, house.swell(3, i), bits(reals[i]));
        }
        Check.due("real beyond", house.swell(3, 5), -1);
        Check.due("real below", house.swell(3, -1), -1);
        Check.due("no swell", house.swell(4, 0), -1);
        Check.due("no instrument's swell", house.swell(16, 0), -1);
        Check.due("A", house.instrument(3, 4), 2);
        Check.due("B", house.instrument(3, 5), 5);
        Check.due("A", house.instrument(4, 4), 63);
        Check.due("B", house.instrument(4, 5), 64);
        Check.due("A", house.instrument(5, 4), 0);
        Check.due("B", house.instrument(5, 5), 1);
        Check.due("no A", house.instrument(0, 4), -1);
        Check.due("no B", house.instrument(0, 5), -1);
        Check.due("no truths", house.instrument(5, 2), -1);
        Check.due("no reals", house.instrument(5, 3), -1);
        Check.due("truths", house.instrument(0, 2), 32);
        Check.due("reals", house.instrument(0, 3), 16);
        Check.due("order", house.look(9), 32);
    }

    private static void tokens() {
        Check.house("order 0;");
        Check.house("#wave\norder\t0\r\n;# no end");
        Check.house("wave0byte1-1#;\n2;part 0.0 0set-5,-1-1none0.;order0 1;");
        Check.house("order 0;#" + Check.repeat("\u00ff?A-", 3));
        Check.house("order 000000000;");
        Check.house("order 0 ; part 0 ;");
        TrackerHouse house = Check.house("wave0byte1-1#;\n2;order0;");
        Check.due("cells", house.instrument(0, 1), 3);
        Check.due("cell", Check.cell(house, 0, 1), -1);
        StringBuilder notes = new StringBuilder("order 0;part 0 ");
        String[] words = ("none vol slide up down cut again off speed jump next set add mul shr flip bump drop turn shut"
            + " open swell lend lose copy swap").split(" ");
        for (int i = 0; i < words.length; i++) {
            notes.append("-1 -1 ").append(words[i]).append(" ").append(i).append(i + 1 < words.length ? "." : ";");
        }
        byte[] container = Check.packed(Check.house(notes.toString()));
        Check.due("rows", container[18], 26);
        for (int i = 0; i < words.length; i++) {
            Check.due(words[i], container[19 + 8 * i + 3], i);
        }
    }

    private static void faultsOfTokens() {
        fault(6, "|");
        fault(6, " # none\n |");
        fault(6, "wave 0 byte 1;|");
        fault(1, "|Order 0;");
        fault(1, "order |\u0000");
        fault(1, "order |\u00e9");
        fault(1, "order |- 1;");
        fault(1, "order |--1;");
        fault(1, "order |+1;");
        fault(1, "order |/;");
        fault(1, "order |:;");
        fault(1, "|{");
        fault(1, "|`");
        fault(2, "|z");
        fault(2, "|a");
        fault(1, "order 0|-;");
        fault(1, "order |0000000000;");
        fault(1, "order |-1234567890;");
        fault(1, "|abcdefghi 0;");
        fault(2, "|abcdefgh 0;");
        fault(2, "|orde 0;");
        fault(2, "|orders 0;");
        fault(2, "|0;");
        fault(2, "|;");
        fault(2, "|byte 0;");
        fault(2, "order|");
        fault(2, "order 0 # ;|");
        fault(2, "order |;");
        fault(2, "order 0 |,");
        fault(2, "order 0 |order");
        fault(2, "wave |byte");
        fault(2, "wave 0 |1;");
        fault(2, "wave 0 |bytes 1;");
        fault(2, "wave 0 |;");
        fault(2, "wave 0 byte |;");
        fault(2, "wave 0 byte 1 |.");
        fault(2, "gate 0 |;");
        fault(2, "swell 0 |;");
        fault(2, "loop 0 |;");
        fault(2, "loop 0 1 |;");
        fault(2, "loop 0 1 2 |3;");
        fault(2, "loop 0 1 2|");
        fault(2, "part |;");
        fault(2, "part 0 |");
        fault(2, "part 0 |,");
        fault(2, "part 0 |none");
        fault(2, "part 0 1 |none");
        fault(2, "part 0 1 1 |1");
        fault(2, "part 0 1 1 |wave 1");
        fault(2, "part 0 1 1 none |;");
        fault(2, "part 0 1 1 none 1 |1");
        fault(2, "part 0 1 1 none 1 , |;");
        fault(2, "part 0 1 1 none 1 |none");
    }

    private static void faultsOfNumbers() {
        for (String item : new String[] {"wave", "gate", "swell", "loop", "part"}) {
            fault(3, item + " |16");
            fault(3, item + " |-1");
        }
        fault(3, "gate 0 0 1 |2;");
        fault(3, "gate 0 |-1;");
        fault(3, "swell 0 64 |65;");
        fault(3, "swell 0 |-1;");
        fault(3, "loop 0 |64 65;");
        fault(3, "loop 0 |-1 1;");
        fault(3, "loop 0 5 |5;");
        fault(3, "loop 0 5 |65;");
        fault(3, "part 0 |96 0 none 0;");
        fault(3, "part 0 |-3 0 none 0;");
        fault(3, "part 0 0 |16 none 0;");
        fault(3, "part 0 0 |-2 none 0;");
        fault(3, "order 0 |16;");
        fault(3, "order |-1;");
        Check.house("order 15; gate 15 1; swell 15 1; loop 15 0 1; wave 15 byte 1;");
        Check.house("order 15; part 15 95 15 none 999999999, -2 -1 swap -999999999;");
    }

    private static void faultsToldTwice() {
        fault(4, "wave 1 byte 1; wave 2 byte 1; wave |1 byte 1;");
        fault(4, "gate 1 1; gate |1 5;");
        fault(4, "swell 1 0; swell |1 99;");
        fault(4, "loop 1 0 1; loop |1 99;");
        fault(4, "part 1 ; part |1 99;");
        fault(4, "order 0; |order 99;");
        Check.house("wave 1 byte 1; gate 1 1; swell 1 1; loop 1 0 1; part 1 ; order 1;");
    }

    private static void faultsOfTooMany() {
        fault(5, "wave 0 byte " + Check.repeat("1 ", 64) + "|1;");
        fault(1, "wave 0 byte " + Check.repeat("1 ", 64) + "|1234567890;");
        fault(2, "wave 0 byte " + Check.repeat("1 ", 64) + "|,");
        fault(5, "gate 0 " + Check.repeat("1 ", 32) + "|1;");
        fault(3, "gate 0 " + Check.repeat("1 ", 32) + "|2;");
        fault(5, "swell 0 " + Check.repeat("1 ", 16) + "|1;");
        fault(3, "swell 0 " + Check.repeat("1 ", 16) + "|65;");
        fault(5, "order " + Check.repeat("1 ", 32) + "|1;");
        fault(3, "order " + Check.repeat("1 ", 32) + "|16;");
        String note = "0 0 none 0";
        String three = note + "," + note + "," + note + ",";
        Check.house("order 0; part 0 " + three + note + ";");
        fault(5, "part 0 " + three + note + ",|" + note);
        fault(3, "part 0 " + three + note + ",|96");
        fault(2, "part 0 " + three + note + ",|;");
        Check.house("order 0; part 0 " + Check.repeat(".", 31) + ";");
        fault(5, "part 0 " + Check.repeat(".", 32) + "|;");
        fault(5, "part 0 " + Check.repeat(".", 32) + "|.");
        fault(5, "part 0 " + Check.repeat(".", 32) + " |" + note + ";");
        fault(3, "part 0 " + Check.repeat(".", 32) + " |96");
        fault(2, "part 0 " + Check.repeat(".", 32) + " |,");
        fault(2, "part 0 " + Check.repeat(".", 32) + " |none");
        fault(2, "part 0 " + Check.repeat(".", 32) + " |");
        fault(1, "part 0 " + Check.repeat(".", 32) + " |?");
    }

    /** A fault takes the module away, and what it told does not come into the next one. */
    private static void faultsAndModule() {
        TrackerHouse house = Check.house("wave 0 byte 1; gate 1 1; swell 2 5; loop 3 0 9; part 0 0 0 none 0; order 0;");
        Check.due("play", Check.play(house, 3), 3);
        Check.due("frame", house.frame(0), 256);
        Check.due("fault", Check.read(house, "wave 5 byte 2; ?"), 1 + 16 * 15);
        Check.due("no module", house.look(4), -1);
        Check.due("no frame", house.frame(0), 40000);
        Check.due("no play", Check.play(house, 3), Check.NO_ELEMENT);
        Check.due("no cell", Check.cell(house, 0, 0), Check.NO_CELL);
        Check.due("no cell", Check.cell(house, 5, 0), Check.NO_CELL);
        Check.due("read", Check.read(house, "order 1;"), 0);
        for (int k = 0; k < 16; k++) {
            for (int what = 0; what < 7; what++) {
                Check.due("instrument " + k + " " + what, house.instrument(k, what), -1);
            }
        }
        Check.due("ticks", house.look(6), 0);
        Check.due("play", Check.play(house, 64), 6);
        Check.due("missing part", house.event(0), 16 * 4);
    }
}
