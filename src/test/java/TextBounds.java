/** Bounds of texts: tokens, items, and each number of the faults with its place. */
final class TextBounds {
    private static final String NOTE = "-1 -1 none 0";

    private TextBounds() {
    }

    static void test() {
        Document.says("A TEXT (the TAPE: 6000 bytes at most) has TOKENS: WORDS (small letters, 8 at most), NUMBERS"
            + " (perhaps a -, then 1 to 9 digits), signs ; , . with blanks (9, 10, 13, 32) and what stands from # to a"
            + " line's end (10) between, as one likes; each as long as it can be.");
        wholeTape();
        words();
        numbers();
        everyByte();
        blanks();
        asLongAsCanBe();
        noTokens();
        items();
        nothingOrNotes();
        faultsOfTokens();
        whatCanStand();
        numbersThatMayNotStand();
        toldTwice();
        tooMany();
        noOrder();
        firstFault();
        noModule();
    }

    private static void wholeTape() {
        String rest = "order 0;";
        Run run = Run.of(Texts.times(" ", 6000 - rest.length()) + rest);
        Check.due("the last of 6000 bytes is read", run.look(9), 1);
        Texts.fault(2, Texts.times(" ", 5992) + "order 0 |");
        Texts.fault(1, Texts.times("\n", 5999) + "|?");
        Texts.fault(6, Texts.times("#", 6000) + "|");
    }

    private static void words() {
        Texts.fault(2, "|abcdefgh");
        Texts.fault(2, "|zzzzzzzz;");
        Texts.fault(1, "|abcdefghi");
        Texts.fault(1, "|" + Texts.times("a", 6000));
        Texts.fault(2, "part 0 0 0 |noneeeee 0;");
        Texts.fault(1, "part 0 0 0 |noneeeeee 0;");
        Texts.fault(1, "|Order 0;");
        Texts.fault(2, "|ordeR 0;");
        Texts.fault(2, "|ord er 0;");
        Texts.fault(2, "|orde 0;");
        Texts.fault(2, "|orders 0;");
    }

    private static void numbers() {
        Run run = Run.of("wave 0 int 1 000000001 -1 -000000001 999999999 -999999999 -0 000000000 0; order 000000000;");
        run.cellsAre("1 to 9 digits", 0, 1, 1, -1, -1, 999999999, -999999999, 0, 0, 0);
        Texts.fault(1, "wave 0 int |0000000001;");
        Texts.fault(1, "wave 0 int |-0000000001;");
        Texts.fault(1, "wave 0 int |1000000000;");
        Texts.fault(1, "wave 0 int |" + Texts.times("9", 5000) + ";");
        Texts.fault(1, "wave 0 int |- 1;");
        Texts.fault(1, "wave 0 int |-;");
        Texts.fault(1, "wave 0 int |-");
        Texts.fault(1, "wave 0 int |--1;");
        Texts.fault(1, "wave 0 int 1|-;");
        Texts.fault(1, "wave 0 int |-a;");
        Texts.fault(1, "wave 0 int |+1;");
    }

    /** Each of the 256 bytes ahead of an order: what is a blank, a remark, a TOKEN or none. */
    private static void everyByte() {
        for (int b = 0; b < 256; b++) {
            Run run = new Run();
            run.feed(Check.bytes((char) b + " order 0;"));
            boolean blank = b == 9 || b == 10 || b == 13 || b == 32;
            boolean token = b >= 'a' && b <= 'z' || b >= '0' && b <= '9' || b == ';' || b == ',' || b == '.';
            int due = blank ? 0 : b == '#' ? 6 + 16 * 10 : token ? 2 : 1;
            Check.due("read of a text with byte " + b + " first", run.read(false), due);
            run = new Run();
            run.feed(Check.bytes("order 0" + (char) b + ";"));
            boolean digit = b >= '0' && b <= '9';
            // behind 0 a digit goes on, a - has none, and what can't stand is told at itself
            due = blank || digit ? 0 : b == ';' ? 2 + 16 * 8 : b == '#' ? 2 + 16 * 9
                : (token ? 2 : 1) + 16 * 7;
            Check.due("read of a text with byte " + b + " behind a number", run.read(false), due);
        }
    }

    private static void blanks() {
        Run.of("\t\n\r wave\t0\nbyte\r1 2\t\n\r ;\n\norder\r\n0\t;\t\n\r ").cellsAre("blanks", 0, 1, 2);
        Run.of("wave0byte1-2;order0;").cellsAre("no blanks", 0, 1, -2);
        Run.of("wave#0 1 2\n0#\nbyte#;;;#\n7# \r ? A ; # 8\n8;#x\norder 0;#").cellsAre("remarks", 0, 7, 8);
        Run.of("order 0;# no line's end").at("a remark at the end", 0, 0, 0, 0);
        Run.of("order 0;#").at("a remark of one byte at the end", 0, 0, 0, 0);
        Run.of("#\norder 0;").at("a remark of nothing", 0, 0, 0, 0);
        Texts.fault(6, "# order 0;\r order 0;|");
        Texts.fault(6, "# order 0;\t order 0; \u0000 order 0;|");
        Texts.fault(2, "order 0 # ;|");
    }

    private static void asLongAsCanBe() {
        Run run = Run.of("wave 0 int 12 1 2 1-2-3 1-2; order 1 1;");
        run.cellsAre("numbers", 0, 12, 1, 2, 1, -2, -3, 1, -2);
        Check.due("two numbers", run.look(9), 2);
        Check.due("one number", Run.of("order 11;").look(9), 1);
        Texts.fault(2, "wave 0 |bytechar 1;");
        Texts.fault(1, "wave 0 |byteshortchar 1;");
        Texts.fault(2, "|wavegate 1;");
        run = Run.of("part0-1 3vol5,-1 4vol6.;order0;");
        run.play(1);
        run.voiceIs("words and numbers", 0, 3, 0, 0, 5);
        run.voiceIs("words and numbers", 1, 4, 0, 0, 6);
    }

    private static void noTokens() {
        Document.says("A row of letters or digits that is longer, a - without digit, another byte is no TOKEN.");
        Texts.fault(2, "order 0 |abcdefgh");
        Texts.fault(1, "order 0 |abcdefghi");
        Texts.fault(3, "order 0 |123456789");
        Texts.fault(1, "order 0 |1234567890");
        Texts.fault(3, "order 0 |-123456789");
        Texts.fault(1, "order 0 |-1234567890");
        Texts.fault(1, "order 0 |-");
        Texts.fault(1, "order 0 |-x");
        Texts.fault(1, "order 0 |-;");
        Texts.fault(1, "order 0 |\u007f;");
        Texts.fault(1, "order 0 |\u0080;");
        Texts.fault(1, "order 0 |\u00ff;");
        Texts.fault(1, "order 0 |\u0000;");
    }

    private static void items() {
        Document.says("ITEMS, any number: wave N KIND numbers ; (KIND one of byte short char int long float double)"
            + " | gate N numbers ; (0 or 1) | swell N numbers ; (0 to 64: 64ths) | loop N A B ; | part N ROW . ROW .. ;"
            + " | order numbers ;");
        StringBuilder all = new StringBuilder();
        for (int n = 15; n >= 0; n--) {
            all.append("part N ;loop N 0 9;swell N 5;gate N 1;wave N byte 3;".replace("N", "" + n));
        }
        for (String text : new String[] {"order 7;" + all, all + "order 7;"}) {
            Run run = Run.of(text);
            for (int k = 0; k < 16; k++) {
                int[] due = {0, 1, 1, 1, 0, 9, k};
                for (int what = 0; what < 7; what++) {
                    Check.due("all 81 items: instrument(" + k + ", " + what + ")", run.instrument(k, what), due[what]);
                }
            }
        }
        Texts.fault(6, "|");
        for (int kind = 0; kind < 7; kind++) {
            Check.due("kind", Run.of("wave 0 " + Texts.KINDS[kind] + " 0; order 0;").instrument(0, 0), kind);
        }
        Texts.fault(2, "wave 0 |real 0;");
        Run run = Run.of("gate 0 0 1; swell 0 0 1 63 64; loop 0 0 1; order 0;");
        Check.due("truth 0", run.gate(0, 0), 0);
        Check.due("truth 1", run.gate(0, 1), 1);
        float[] reals = {0, 1 / 64f, 63 / 64f, 1};
        for (int i = 0; i < 4; i++) {
            Check.due("64ths", run.swell(0, i), Texts.bits(reals[i]));
        }
        Texts.fault(3, "gate 0 |2;");
        Texts.fault(3, "gate 0 |-1;");
        Texts.fault(3, "swell 0 |65;");
        Texts.fault(3, "swell 0 |-1;");
    }

    private static void nothingOrNotes() {
        Document.says("where ROW is nothing, or NOTES with , between: PITCH INSTRUMENT EFFECT ARGUMENT, EFFECT a word (see"
            + " 3).");
        Run run = Run.of("part 0 . " + NOTE + " . . " + NOTE + "," + NOTE + " .; order 0;");
        run.pack();
        int[] due = {5, 0, 1, 1, 0, 0, 0, 0, 0, 0, 0, 2, 1, 0, 0, 0, 0, 0, 0, 1, 0, 0, 0, 0, 0, 0, 0, 0};
        for (int i = 0; i < due.length; i++) {
            Check.due("rows with and without notes: byte " + i, run.packed(Box.PART + i), due[i]);
        }
        Check.due("a row of nothing", Run.of("part 0 ; order 0;").play(64), 6);
        Check.due("two rows of nothing", Run.of("part 0 .; order 0;").play(64), 12);
        Texts.fault(2, "part 0 |, " + NOTE + ";");
        Texts.fault(2, "part 0 " + NOTE + " , |. ;");
        Texts.fault(2, "part 0 " + NOTE + " , |, " + NOTE + ";");
        Texts.fault(2, "part 0 " + NOTE + " |" + NOTE + ";");
        Texts.fault(2, "part 0 -1 -1 |0 0;");
        Document.says("N is 0 to 15.");
        for (String item : new String[] {"wave", "gate", "swell", "loop", "part"}) {
            String rest = item.equals("wave") ? " byte 1;" : item.equals("loop") ? " 0 1;" : item.equals("part") ? ";" : " 1;";
            Check.due(item + " 0", Run.of(item + " 0" + rest + "order 0;").look(9), 1);
            Check.due(item + " 15", Run.of(item + " 15" + rest + "order 0;").look(9), 1);
            Texts.fault(3, item + " |16" + rest);
            Texts.fault(3, item + " |-1" + rest);
        }
    }

    private static void faultsOfTokens() {
        Document.says("FAULTS of a text, as it is read: 1 no TOKEN;");
        String[] bad = {"?", "A", "-", "1234567890", "abcdefghi", "\u0080"};
        for (String state : STATES) {
            String prefix = state.substring(0, state.indexOf('|'));
            for (String token : bad) {
                Texts.fault(1, prefix + " |" + token);
                Texts.fault(1, prefix + " |" + token + " ;");
            }
        }
    }

    /** What stands ahead of a |, and which TOKENS can come next: i an item's word, k a KIND's, e an EFFECT's, n, signs. */
    private static final String[] STATES = {
        "|i", "wave|n", "wave 0|k", "wave 0 byte|n", "wave 0 byte 1|n;", "wave 0 byte 1;|i",
        "gate|n", "gate 0|n", "gate 0 1|n;", "gate 0 1;|i",
        "swell|n", "swell 0|n", "swell 0 1|n;", "swell 0 1;|i",
        "loop|n", "loop 0|n", "loop 0 0|n", "loop 0 0 1|;", "loop 0 0 1;|i",
        "part|n", "part 0|n.;", "part 0 1|n", "part 0 1 1|e", "part 0 1 1 none|n", "part 0 1 1 none 1|,.;",
        "part 0 1 1 none 1,|n", "part 0 1 1 none 1.|n.;", "part 0 .|n.;", "part 0 1 1 none 1 , 1|n", "part 0 ;|i",
        "order|n", "order 1|n;", "order 1;|i",
    };

    private static void whatCanStand() {
        Document.says("2 a TOKEN that can't stand where it does (also a word that is none of these, or the end: at the"
            + " TAPE's length);");
        String[] words = {"wave i", "gate i", "swell ie", "loop i", "part i", "order i", "byte k", "short k", "char k", "int k",
            "long k", "float k", "double k", "none e", "vol e", "swap e", "copy e", "zzz ", "a ", "1 n", "1 n", "; ;", ", ,",
            ". ."};
        for (String state : STATES) {
            int bar = state.indexOf('|');
            String prefix = state.substring(0, bar);
            String next = state.substring(bar + 1);
            for (String word : words) {
                String token = word.substring(0, word.indexOf(' '));
                String classes = word.substring(word.indexOf(' ') + 1);
                boolean can = false;
                for (int i = 0; i < classes.length(); i++) {
                    can |= next.indexOf(classes.charAt(i)) >= 0;
                }
                if (can) {
                    stands(prefix + " ", token);
                } else {
                    Texts.fault(2, prefix + " |" + token);
                    Texts.fault(2, prefix + " |" + token + " ; ?");
                }
            }
            if (!next.equals("i")) {
                Texts.fault(2, prefix + " |");
                Texts.fault(2, prefix + "|");
                Texts.fault(2, prefix + " # ;|");
            }
        }
    }

    /** A TOKEN that can stand has no fault: the next one has it, the end or what there is not. */
    private static void stands(String prefix, String token) {
        Run run = new Run();
        String text = prefix + token + " ";
        run.feed(Check.bytes(text + "?"));
        boolean second = prefix.startsWith("order 1;") && token.equals("order");
        Check.due("\"" + text + "?\" can stand", run.read(false),
            second ? 4 + 16L * (prefix.length()) : 1 + 16L * text.length());
    }

    private static void numbersThatMayNotStand() {
        Document.says("3 a NUMBER that may not stand there (N 0 to 15; truths; 64ths; A 0 to 63, B above A and at most 64;"
            + " PITCH, INSTRUMENT of a NOTE; numbers of PARTS);");
        String[][] bounds = {
            {"wave ", " byte 1;", "0", "15"}, {"gate ", " 1;", "0", "15"}, {"swell ", " 1;", "0", "15"},
            {"loop ", " 0 1;", "0", "15"}, {"part ", " ;", "0", "15"}, {"gate 0 ", " ;", "0", "1"},
            {"gate 0 1 0 ", " ;", "0", "1"}, {"swell 0 ", " ;", "0", "64"}, {"swell 0 1 2 ", " ;", "0", "64"},
            {"loop 0 ", " 64;", "0", "63"}, {"loop 0 0 ", " ;", "1", "64"}, {"loop 0 62 ", " ;", "63", "64"},
            {"loop 0 63 ", " ;", "64", "64"}, {"part 0 ", " 0 none 0;", "-2", "95"}, {"part 0 0 ", " none 0;", "-1", "15"},
            {"part 0 . 0 0 none 0, ", " 0 none 0;", "-2", "95"}, {"part 0 . 0 0 none 0, 0 ", " none 0;", "-1", "15"},
        };
        for (String[] row : bounds) {
            int least = Integer.parseInt(row[2]);
            int most = Integer.parseInt(row[3]);
            for (int number : new int[] {least, most}) {
                Check.due("good", Run.of(row[0] + number + row[1] + "order 0;").look(9), 1);
            }
            for (int number : new int[] {least - 1, most + 1, -999999999, 999999999}) {
                Texts.fault(3, row[0] + "|" + number + row[1]);
                Texts.fault(3, row[0] + "|" + number);
            }
        }
        for (String start : new String[] {"order ", "order 3 "}) {
            Check.due("good", Run.of(start + "0;").look(4), 0);
            Check.due("good", Run.of(start + "15;").look(4), 0);
            Texts.fault(3, start + "|16;");
            Texts.fault(3, start + "|-1;");
        }
        // what stands in a cell or an argument may be any NUMBER
        Run run = Run.played("wave 0 long 999999999 -999999999; wave 1 long 0; part 0 -1 1 set -999999999; order 0;", 1);
        run.cellsAre("any number", 0, 999999999, -999999999);
        run.cellsAre("any number", 1, -999999999);
    }

    private static void toldTwice() {
        Document.says("4 N of a wave, gate, swell, loop or part that was told already; a second order (at the word);");
        String[] items = {"wave N byte 1;", "gate N 1;", "swell N 1;", "loop N 0 1;", "part N ;"};
        for (String item : items) {
            for (int n : new int[] {0, 15}) {
                String told = item.replace("N", "" + n);
                Texts.fault(4, told + item.replace("N", "|" + n));
                Texts.fault(4, told + "order 0;" + item.replace("1", "?").replace("N", "|" + n));
                // what the others told is not told already
                StringBuilder others = new StringBuilder("order 0;" + item.replace("N", "" + (n == 0 ? 1 : 14)));
                for (String other : items) {
                    others.append(other.equals(item) ? "" : other.replace("N", "" + n));
                }
                Check.due("once each", Run.of(others + told).look(9), 1);
            }
        }
        Texts.fault(4, "order 0; |order 0;");
        Texts.fault(4, "order 0; |order");
        Texts.fault(4, "order 0; part 1; |order ?");
        // what an earlier text told is not told already
        Run run = Run.of("wave 0 byte 1; gate 0 1; swell 0 1; loop 0 0 1; part 0; order 0;");
        run.feed(Check.bytes("wave 0 byte 1; gate 0 1; swell 0 1; loop 0 0 1; part 0; order 0;"));
        Check.due("a second text", run.read(false), 0);
        run.feed(Check.bytes("wave 0 byte 1; gate 0 1; swell 0 1; loop 0 0 1; part 0; order 0; ?"));
        Check.due("a text with a fault", run.read(false) & 15, 1);
        run.feed(Check.bytes("wave 0 byte 1; gate 0 1; swell 0 1; loop 0 0 1; part 0; order 0;"));
        Check.due("a text behind it", run.read(false), 0);
    }

    private static void tooMany() {
        Document.says("5 a CELL, truth, 64th, ROW, NOTE, number of the order that is one too many (at its first TOKEN; a ROW"
            + " without NOTES: at what is behind it);");
        for (String kind : Texts.KINDS) {
            full("wave 0 " + kind + " ", 64);
        }
        full("gate 0 ", 32);
        full("swell 0 ", 16);
        String four = Texts.times(NOTE + ",", 3) + NOTE;
        Check.due("4 notes", Run.of("part 0 " + four + "; order 0;").look(9), 1);
        Texts.fault(5, "part 0 " + four + ", |" + NOTE + ";");
        Texts.fault(5, "part 0 " + four + ", |95 ?");
        Texts.fault(5, "part 0 . ." + four + ", |-2");
        String rows = "part 0 " + Texts.times(NOTE + ".", 32);
        Check.due("32 rows", Run.of("part 0 " + Texts.times(NOTE + ".", 31) + NOTE + "; order 0;").look(9), 1);
        Check.due("32 rows", Run.of("part 0 " + Texts.times(NOTE + ".", 31) + "; order 0;").look(9), 1);
        for (String start : new String[] {rows, "part 0 " + Texts.times(".", 32)}) {
            Texts.fault(5, start + " |" + NOTE + ";");
            Texts.fault(5, start + " |95 ?");
            Texts.fault(5, start + " |;");
            Texts.fault(5, start + " |.");
            Texts.fault(5, start + "# ;\n |. ;");
            Texts.fault(2, start + " |");
            Texts.fault(2, start + " |, " + NOTE);
            Texts.fault(2, start + " |none");
        }
        Check.due("32 numbers", Run.of("order " + Texts.times("0 ", 32) + ";").look(9), 32);
        Texts.fault(5, "order " + Texts.times("0 ", 32) + "|0;");
        Texts.fault(5, "order " + Texts.times("0 ", 32) + "|0 0 0 ?");
    }

    private static void full(String start, int most) {
        String numbers = Texts.times("1 ", most);
        Check.due(start + "full", Run.of(start + numbers + "; order 0;").look(9), 1);
        Texts.fault(5, start + numbers + "|1;");
        Texts.fault(5, start + numbers + "|1 1 ?");
        Texts.fault(5, start + numbers + "|0");
        Texts.fault(2, start + numbers + "|,");
        Texts.fault(2, start + numbers + "|");
    }

    private static void noOrder() {
        Document.says("at the end 6: no order.");
        Texts.fault(6, "|");
        Texts.fault(6, " \n |");
        Texts.fault(6, "# order 0;|");
        Texts.fault(6, "wave 0 byte 1;|");
        Texts.fault(6, "wave 0 byte 1; gate 0 1; part 0 ; # none\n|");
        Check.due("an order alone", Run.of("order 0;").look(9), 1);
    }

    private static void firstFault() {
        Document.says("The first one, told at its TOKEN's beginning; at one TOKEN the least number.");
        Texts.fault(2, "|zzz ? 16");
        Texts.fault(3, "wave |16 ? zzz");
        Texts.fault(3, "gate 0 1 |2 ; gate 0 1; ?");
        Texts.fault(4, "gate 0 1; gate |0 2 ; ?");
        Texts.fault(3, "gate 0 1; gate |16 2 ; ?");
        Texts.fault(1, "\n\n  |abcdefghijkl order 0;");
        Texts.fault(3, "order \t|-000000016;");
        // no TOKEN is ahead of one that can't stand, or is one too many
        Texts.fault(1, "order " + Texts.times("0 ", 32) + "|0000000000;");
        Texts.fault(1, "wave 0 byte " + Texts.times("0 ", 64) + "|-;");
        Texts.fault(1, "part 0 " + Texts.times(".", 32) + "|?");
        // one that can't stand, or a NUMBER that may not, is ahead of one too many
        Texts.fault(2, "order " + Texts.times("0 ", 32) + "|order");
        Texts.fault(3, "order " + Texts.times("0 ", 32) + "|16;");
        Texts.fault(3, "gate 0 " + Texts.times("0 ", 32) + "|2;");
        Texts.fault(3, "swell 0 " + Texts.times("0 ", 16) + "|65;");
        Texts.fault(3, "part 0 " + Texts.times(NOTE + ",", 4) + "|96;");
        Texts.fault(3, "part 0 " + Texts.times(NOTE + ",", 4) + "|-3;");
        Texts.fault(2, "part 0 " + Texts.times(NOTE + ",", 4) + "|none;");
        Texts.fault(3, "part 0 " + Texts.times(".", 32) + "|96 0 none 0;");
        Texts.fault(3, "part 0 " + Texts.times(".", 32) + "|-3 0 none 0;");
        Texts.fault(5, "part 0 " + Texts.times(".", 32) + "|95 99 none 0;");
    }

    private static void noModule() {
        Document.says("A module is there only without FAULT; with one there is none.");
        String good = "wave 0 byte 1; gate 0 1; swell 0 1; loop 0 0 1; part 0 48 0 none 0; order 0;";
        for (String bad : new String[] {"?", "zzz", "order 16;", "order 0; order 0;", "order " + Texts.times("0 ", 33), ""}) {
            Run run = Run.played(good, 3);
            run.feed(Check.bytes(good + bad));
            run.end(run.look(8) - (bad.isEmpty() ? 1 : 0));
            Check.due("a fault", run.read(false) > 0, true);
            run.sameAs("no module behind " + bad, new Run(), name -> false);
        }
    }
}
