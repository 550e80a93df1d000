/** Section 5 and promises 1 to 8: a test of its own for each sentence that names a boundary case. */
public final class EdgesOfTextsTest {
    private static final int NONE = TwinBoot.NONE;
    private static final int FULL = TwinBoot.FULL;
    private static final String PLAIN = Devices.PLAIN;

    public static void main(String[] args) {
        numbersOfFlash();
        numbersOfStatements();
        formOfTexts();
        errorsOfTexts();
        whatTextsLeave();
        promisesOfTexts();
        promisesOfStagedWords();
        Check.end();
    }

    // ---- how these tests tell a text

    private static TwinBoot taken(int whole, String text) {
        TwinBoot boot = new TwinBoot();
        Check.same("load() of \"" + text + "\"", whole, Check.load(boot, text));
        Check.same("loadError() of \"" + text + "\"", 0, boot.loadError());
        return boot;
    }

    private static void takenWith(String text, int what, int due) {
        Check.same("setting(" + what + ") of \"" + text + "\"", due, taken(0, text).setting(what));
    }

    private static void toldWith(String text, int what, int due) {
        Check.same("told(" + what + ") of \"" + text + "\"", due, taken(0, text).told(what));
    }

    /** The bar stands where the error is; it is no part of the text. */
    private static void refused(int error, String marked) {
        int position = marked.indexOf('|');
        String text = marked.substring(0, position) + marked.substring(position + 1);
        TwinBoot boot = new TwinBoot();
        Check.same("load() of \"" + text + "\"", -100 - position, Check.load(boot, text));
        Check.same("loadError() of \"" + text + "\"", error, boot.loadError());
    }

    private static String payload(int count, int word) {
        return (" " + word).repeat(count);
    }

    // ---- section 5: numbers

    private static void numbersOfFlash() {
        Check.edge("5: WORDS is 8 to 64", () -> {
            takenWith("flash 8 4 12", 0, 8);
            takenWith("flash 64 4 12", 0, 64);
            refused(2, "flash |7 4 12");
            refused(2, "flash |0 4 12");
            refused(2, "flash |65 5 12");
            refused(2, "flash |68 4 12");
        });
        Check.edge("5: PAGE is 4 to 16", () -> {
            takenWith("flash 16 4 12", 1, 4);
            takenWith("flash 64 16 12", 1, 16);
            refused(2, "flash 9 |3 12");
            refused(2, "flash 8 |0 12");
            refused(2, "flash 34 |17 12");
        });
        Check.edge("5: JOURNAL is 12 to 32", () -> {
            takenWith("flash 16 4 12", 2, 12);
            takenWith("flash 16 4 32", 2, 32);
            refused(2, "flash 16 4 |11");
            refused(2, "flash 16 4 |33");
            refused(2, "flash 16 4 |0");
        });
        Check.edge("5: WORDS is a multiple of PAGE; error 3: the position is that of PAGE", () -> {
            takenWith("flash 20 5 12", 1, 5);
            takenWith("flash 15 15 12", 1, 15);
            refused(3, "flash 16 |5 12");
            refused(3, "flash 8 |16 12");
            refused(3, "flash 63 |4 12");
            refused(3, "flash 17  |016 12");
        });
        Check.edge("5: error 3 is found before what stands behind PAGE", () -> {
            refused(3, "flash 16 |5 99");
            refused(3, "flash 16 |5");
            refused(3, "flash 16 |5 x");
        });
    }

    private static void numbersOfStatements() {
        Check.edge("5: TRIES is 1 to 3 (3 without it)", () -> {
            takenWith(PLAIN + ";tries 1", 3, 1);
            takenWith(PLAIN + ";tries 3", 3, 3);
            takenWith(PLAIN, 3, 3);
            refused(2, PLAIN + ";tries |0");
            refused(2, PLAIN + ";tries |4");
        });
        Check.edge("5: LIFE is 0 to 1000 (0 without it)", () -> {
            takenWith(PLAIN + ";life 0", 5, 0);
            takenWith(PLAIN + ";life 1000", 5, 1000);
            takenWith(PLAIN, 5, 0);
            refused(2, PLAIN + ";life |1001");
        });
        Check.edge("5: FLOOR is 0 to 255", () -> {
            toldWith(PLAIN + ";floor 0", 0, 0);
            toldWith(PLAIN + ";floor 255", 0, 255);
            refused(2, PLAIN + ";floor |256");
        });
        Check.edge("5: good SLOT is 0 or 1", () -> {
            toldWith(PLAIN + ";good 0", 1, 0);
            toldWith(PLAIN + ";good 1", 1, 1);
            refused(2, PLAIN + ";good |2");
        });
        Check.edge("5: an image lies in a slot, 0 or 1", () -> {
            Check.same("word(0, 0)", 9, taken(1, PLAIN + ";image 0 9 5").word(0, 0));
            Check.same("word(1, 0)", 9, taken(1, PLAIN + ";image 1 9 5").word(1, 0));
            refused(2, PLAIN + ";image |2 9 5");
        });
        Check.edge("2: an image has a version (1 to 255)", () -> {
            Check.same("word(0, 0)", 1, taken(1, PLAIN + ";image 0 1 5").word(0, 0));
            Check.same("word(0, 0)", 255, taken(1, PLAIN + ";image 0 255 5").word(0, 0));
            refused(2, PLAIN + ";image 0 |0 5");
            refused(2, PLAIN + ";image 0 |256 5");
        });
        Check.edge("1: a word is a number from 0 to 65535 (a payload word of a text)", () -> {
            Check.same("word(0, 3)", 0, taken(1, PLAIN + ";image 0 1 0").word(0, 3));
            Check.same("word(0, 3)", 65535, taken(1, PLAIN + ";image 0 1 65535").word(0, 3));
            refused(2, PLAIN + ";image 0 1 |65536");
            refused(2, PLAIN + ";image 0 1 0 65535 |65536");
        });
        Check.edge("2: an image has 1 to WORDS - 3 payload words", () -> {
            Check.same("word(1, 1)", 1, taken(1, "flash 8 4 12;image 1 1 7").word(1, 1));
            Check.same("word(1, 1)", 5, taken(1, "flash 8 4 12;image 1 1" + payload(5, 7)).word(1, 1));
            Check.same("word(1, 1)", 61, taken(1, "flash 64 4 12;image 1 1" + payload(61, 7)).word(1, 1));
            refused(1, "flash 8 4 12;image 1 1|");
            refused(1, "flash 8 4 12;image 1 1|;good 0");
            refused(1, "flash 8 4 12;image 1 1" + payload(5, 7) + " |7");
            refused(1, "flash 64 4 12;image 1 1" + payload(61, 7) + " |7");
        });
        Check.edge("5: a payload word for which there is no room is such a number (error 1), whatever its size", () -> {
            refused(1, "flash 8 4 12;image 1 1" + payload(5, 7) + " |65535");
            refused(1, "flash 8 4 12;image 1 1" + payload(5, 7) + " |65536");
            refused(1, "flash 8 4 12;image 1 1" + payload(5, 7) + " |99999999999999999999 x");
        });
    }

    // ---- section 5: the form of a text

    private static void formOfTexts() {
        Check.edge("5: the first statement is flash", () -> {
            refused(1, "|tries 3;flash 16 4 12");
            refused(1, "|16 4 12");
            refused(1, "|;flash 16 4 12");
            refused(1, PLAIN + ";|flash 16 4 12");
        });
        Check.edge("5: behind it, in any order", () -> {
            String[] texts = {";tries 2;life 5;image 0 1 5;image 1 1 5;floor 1;good 1",
                ";good 1;floor 1;image 1 1 5;image 0 1 5;life 5;tries 2",
                ";image 1 1 5;good 1;image 0 1 5;tries 2;floor 1;life 5"};
            for (String text : texts) {
                TwinBoot boot = taken(2, PLAIN + text);
                Check.same("setting(3)", 2, boot.setting(3));
                Check.same("setting(5)", 5, boot.setting(5));
                Devices.told(boot, 1, 1, NONE, 0, 0);
            }
        });
        Check.edge("5: tries stands at most once; error 4: the position is its word", () -> {
            refused(4, PLAIN + ";tries 3;|tries 3");
            refused(4, PLAIN + ";tries 3;good 0; |tries 1");
        });
        Check.edge("5: life stands at most once", () -> {
            refused(4, PLAIN + ";life 0;|life 0");
            refused(4, PLAIN + ";life 5;tries 2 ;  |life 7");
        });
        Check.edge("5: floor stands at most once", () -> {
            refused(4, PLAIN + ";floor 0;|floor 0");
            refused(4, PLAIN + ";floor 5;tries 2; |floor 7");
        });
        Check.edge("5: good stands at most once", () -> {
            refused(4, PLAIN + ";good 0;|good 0");
            refused(4, PLAIN + ";good 1;|good 0");
        });
        Check.edge("5: image of each slot stands at most once; error 4: for image the position is that of SLOT", () -> {
            taken(2, PLAIN + ";image 1 1 5;image 0 1 5");
            refused(4, PLAIN + ";image 0 1 5;image |0 1 5");
            refused(4, PLAIN + ";image 1 1 5;image |1 1 5");
            refused(4, PLAIN + ";image 0 1 5;image 1 1 5;image  |00 1 5");
        });
        Check.edge("5: error 4 stands left of what is wrong behind it", () -> {
            refused(4, PLAIN + ";tries 3;|tries 4");
            refused(4, PLAIN + ";good 0;|good");
            refused(4, PLAIN + ";image 0 1 5;image |0 0");
            refused(2, PLAIN + ";image 0 1 5;image |2 1 5");
        });
        Check.edge("5: a word of the text is a maximal run of lower-case letters", () -> {
            refused(1, "|flashes 16 4 12");
            refused(1, "|flas 16 4 12");
            refused(1, "|Flash 16 4 12");
            refused(1, "|flasH 16 4 12");
            refused(1, "|fla sh 16 4 12");
            refused(1, "|clash 16 4 12");
            refused(1, "|flask 16 4 12");
            refused(1, PLAIN + ";|cries 3");
            refused(1, PLAIN + ";|wife 3");
            refused(1, PLAIN + ";|wood 1");
            refused(1, PLAIN + ";|trie 3");
            refused(1, PLAIN + ";|triestries 3");
            refused(1, PLAIN + ";|goodlife 1");
        });
        Check.edge("5: letters a and z are letters, the bytes beside them are not", () -> {
            refused(1, "flash 16|a 4 12");
            refused(1, "flash 16|` 4 12");
            refused(1, PLAIN + ";|goodz 1");
            refused(1, PLAIN + ";good|{ 1");
            refused(1, PLAIN + ";good|` 1");
        });
        Check.edge("5: a number is a maximal run of digits", () -> {
            takenWith("flash 0000000000000000000000000000016 4 12", 0, 16);
            refused(2, "flash |1604 12");
            refused(2, "flash |1 6 4 12");
            refused(2, "flash |4294967312 4 12");
            refused(2, "flash |18446744073709551632 4 12");
            refused(2, "flash |100000000000000000000000000000000000000000016 4 12");
        });
        Check.edge("5: digits 0 and 9 are digits, the bytes beside them are not", () -> {
            Check.same("word(0, 3)", 9090, taken(1, PLAIN + ";image 0 9 9090").word(0, 3));
            refused(1, "flash 16|/ 4 12");
            refused(1, "flash 16|: 4 12");
            refused(1, "flash |-16 4 12");
            refused(1, "flash |+16 4 12");
            refused(1, "flash 16|.0 4 12");
        });
        Check.edge("5: spaces may stand before words, numbers and semicolons, and at the end", () -> {
            takenWith("   flash   16   4   12   ;   tries   2   ", 3, 2);
            takenWith(" flash 16 4 12 ; tries 2 ; good 0 ", 3, 2);
            taken(1, PLAIN + "  ;  image  0  1  5  6  ;  good  0  ");
        });
        Check.edge("5: spaces are required between two numbers alone", () -> {
            takenWith("flash16 4 12;tries2;life3;floor4;good0", 5, 3);
            taken(1, PLAIN + ";image0 1 5;good 0");
            refused(2, "flash |164 12");
        });
        Check.edge("5: a space is byte 32", () -> {
            refused(1, "flash|\t16 4 12");
            refused(1, "flash 16|\n4 12");
            refused(1, "flash 16|\u00a04 12");
            refused(1, PLAIN + "|\u001f");
            refused(1, PLAIN + "|!");
        });
    }

    // ---- section 5: errors

    private static void errorsOfTexts() {
        Check.edge("5: the first error ends it", () -> {
            refused(2, "flash |7 3 11;x");
            refused(3, "flash 16 |5 11;tries 9");
            refused(2, PLAIN + ";tries |9;tries 9;x");
            refused(1, PLAIN + ";|x;tries 9");
            refused(4, PLAIN + ";tries 1;|tries 1;flash");
        });
        Check.edge("5: error 1: a byte that cannot stand at its place (position: its first byte)", () -> {
            refused(1, "flash 16|;4 12");
            refused(1, PLAIN + "|,tries 3");
            refused(1, PLAIN + ";|;");
            refused(1, PLAIN + ";tries 3|\u00ff");
            refused(1, PLAIN + "   |#");
            refused(1, PLAIN + ";image 0 1 5|-6");
        });
        Check.edge("5: error 1: a word that cannot stand at its place", () -> {
            refused(1, "flash |x 4 12");
            refused(1, "flash 16 4 |tries");
            refused(1, PLAIN + " |tries 3");
            refused(1, PLAIN + ";tries |two");
            refused(1, PLAIN + ";image 0 1 5 |image 1 1 5");
            refused(1, PLAIN + ";image |good 0");
        });
        Check.edge("5: error 1: a number that cannot stand at its place", () -> {
            refused(1, PLAIN + " |13");
            refused(1, PLAIN + "; |3");
            refused(1, PLAIN + ";tries 3 |3");
            refused(1, PLAIN + ";life 3 |99999");
            refused(1, PLAIN + ";floor 3 |0");
            refused(1, PLAIN + ";good 1 |1");
        });
        Check.edge("5: error 1: the text ends too early (position: its length)", () -> {
            for (String text : new String[] {"", "flash", "flash 16", "flash 16 4", PLAIN + ";", PLAIN + ";tries",
                PLAIN + ";life", PLAIN + ";floor", PLAIN + ";good", PLAIN + ";image", PLAIN + ";image 0",
                PLAIN + ";image 0 1", PLAIN + ";tries 3;"}) {
                refused(1, text + "|");
                refused(1, text + "   |");
            }
        });
        Check.edge("5: error 2: a number out of its range (position: its first digit)", () -> {
            refused(2, "flash   |0007 4 12");
            refused(2, PLAIN + ";tries|4");
            refused(2, PLAIN + ";life  |01001");
            refused(2, PLAIN + ";image 0 1 1 2  |65536 3");
        });
    }

    private static void whatTextsLeave() {
        Check.edge("5: after that, the other words of the slots are erased", () -> {
            TwinBoot boot = taken(2, "flash 8 4 12;image 0 1 2 3 4 5 6;image 1 1 2");
            Check.load(boot, "flash 12 4 12;image 1 1 5");
            for (int index = 0; index < 12; index++) {
                Check.same("word(0, " + index + ")", 65535, boot.word(0, index));
            }
            Devices.words(boot, 1, 0, 1, 1, 9, 5, 65535, 65535, 65535, 65535, 65535, 65535, 65535, 65535);
        });
        Check.edge("5: FLOOR if FLOOR is given and greater than 0", () -> {
            Devices.journal(taken(0, PLAIN), 0, 0, 24582, 65535, 65535);
            Devices.journal(taken(0, PLAIN + ";floor 0"), 0, 0, 24582, 65535, 65535);
            Devices.journal(taken(0, PLAIN + ";floor 1"), 0, 0, 24582, 4096 + 16 + 2, 65535);
        });
        Check.edge("5: and GOOD if it is given", () -> {
            Devices.journal(taken(0, PLAIN + ";good 0"), 0, 0, 24582, 8194, 65535);
            Devices.journal(taken(0, PLAIN + ";good 0;floor 0"), 0, 0, 24582, 8194, 65535);
            Devices.journal(taken(0, PLAIN + ";good 1;floor 2"), 0, 0, 24582, 4096 + 32 + 3, 8211, 65535);
        });
        Check.edge("5: journal page 1 is erased, the wear of all pages is 0", () -> {
            TwinBoot boot = Devices.running(Devices.ONE);
            boot.mirror();
            boot.moveJournal();
            boot.moveJournal();
            boot.stage(7);
            boot.update(3);
            boot.boot();
            boot.confirm();
            boot.mirror();
            Check.same("wear(0, 3)", 1, boot.wear(0, 3));
            Check.load(boot, "flash 16 4 32");
            for (int index = 0; index < 32; index++) {
                Check.same("journalWord(1, " + index + ")", 65535, boot.journalWord(1, index));
            }
            for (int page = 0; page < 4; page++) {
                Check.same("wear(0, " + page + ")", 0, boot.wear(0, page));
                Check.same("wear(1, " + page + ")", 0, boot.wear(1, page));
            }
            Check.same("wear(2, 0)", 0, boot.wear(2, 0));
            Check.same("wear(2, 1)", 0, boot.wear(2, 1));
        });
    }

    // ---- promises 1 to 4

    private static void promisesOfTexts() {
        Check.edge("6: a new object is as if by the text \"flash 16 4 12\"", () -> {
            TwinBoot loaded = taken(0, "flash 16 4 12");
            Check.same("a new object", Devices.everything(loaded), Devices.everything(new TwinBoot()));
        });
        Check.edge("Promise 1: with an empty input buffer", () -> {
            Check.same("append(1) to a new object", 1, new TwinBoot().append(1));
            TwinBoot boot = new TwinBoot();
            Check.same("load() of an empty buffer", -100, boot.load());
            Check.same("loadError() of an empty buffer", 1, boot.loadError());
        });
        Check.edge("Promise 1: no staged words and no snapshots", () -> {
            TwinBoot boot = new TwinBoot();
            Check.same("staged(0)", NONE, boot.staged(0));
            Check.same("clearStaged()", 0, boot.clearStaged());
            Check.same("restoreSnapshot(0)", NONE, boot.restoreSnapshot(0));
            Check.same("restoreSnapshot(1)", NONE, boot.restoreSnapshot(1));
        });
        Check.edge("Promise 2: the most significant byte first, where bytes that are 0 are left out", () -> {
            TwinBoot boot = new TwinBoot();
            Check.same("append(0)", 0, boot.append(0));
            Check.same("append, zeros between", 4, boot.append(0x6600006c00610073L));
            Check.same("append, zeros at both ends", 6, boot.append(0x0000680038000000L));
            Check.same("append(0) again", 6, boot.append(0));
            Check.same("append, eight bytes", 14, boot.append(0x2034203132202020L));
            Check.same("load()", 0, boot.load());
            Check.same("setting(0)", 8, boot.setting(0));
        });
        Check.edge("Promise 2: bytes of numbers below 0", () -> {
            TwinBoot boot = new TwinBoot();
            Check.same("append(MIN)", 1, boot.append(Long.MIN_VALUE));
            Check.same("append(-1)", 9, boot.append(-1));
            Check.same("append(MAX)", 17, boot.append(Long.MAX_VALUE));
        });
        Check.edge("Promise 2: FULL if it would exceed 900", EdgesOfTextsTest::fullBuffer);
        Check.edge("Promise 2: a text of 900 bytes is read to its end", () -> {
            TwinBoot boot = new TwinBoot();
            Check.same("append", 900, Check.append(boot, PLAIN + " ".repeat(887)));
            Check.same("load()", 0, boot.load());
            Check.append(boot, PLAIN + " ".repeat(886) + "x");
            Check.same("load() with a wrong last byte", -999, boot.load());
            Check.append(boot, PLAIN + " ".repeat(886) + ";");
            Check.same("load() that ends too early", -1000, boot.load());
        });
        Check.edge("Promise 3: returns the number of slots that are whole", () -> {
            taken(0, PLAIN);
            taken(1, PLAIN + ";image 0 1 5");
            taken(1, PLAIN + ";image 1 1 5");
            taken(2, PLAIN + ";image 0 1 5;image 1 1 5");
        });
        Check.edge("Promise 3: begins anew; the staged words are forgotten, the log is empty", () -> {
            TwinBoot boot = Devices.pending(Devices.BOTH + ";tries 1;life 1;floor 1", 9);
            Check.stage(boot, 1, 2);
            boot.setPower(3);
            Check.load(boot, PLAIN);
            Check.same("a device that begins anew", Devices.everything(new TwinBoot()), Devices.everything(boot));
        });
        Check.edge("6: the device is off and has power without limit behind load()", () -> {
            TwinBoot boot = Devices.running(Devices.ONE);
            boot.setPower(0);
            Check.load(boot, Devices.ONE);
            Check.same("state()", 0, boot.state());
            Check.same("running()", NONE, boot.running());
            Check.same("power()", NONE, boot.power());
        });
        Check.edge("Promise 3: the buffer is emptied, also on an error", () -> {
            TwinBoot boot = new TwinBoot();
            Check.load(boot, PLAIN);
            Check.same("append(0) behind a right text", 0, boot.append(0));
            Check.load(boot, PLAIN + ";x");
            Check.same("append(0) behind a wrong text", 0, boot.append(0));
            Check.same("load() of the emptied buffer", -100, boot.load());
        });
        Check.edge("Promise 3: the snapshots stay", () -> {
            TwinBoot boot = new TwinBoot();
            boot.stage(5);
            boot.saveSnapshot(0);
            Check.load(boot, "flash 8 4 12");
            boot.saveSnapshot(1);
            Check.load(boot, PLAIN);
            Check.load(boot, "x");
            Check.same("restoreSnapshot(0)", 0, boot.restoreSnapshot(0));
            Check.same("staged(0)", 5, boot.staged(0));
            Check.same("restoreSnapshot(1)", 0, boot.restoreSnapshot(1));
            Check.same("setting(0)", 8, boot.setting(0));
        });
        Check.edge("Promise 3: on an error nothing but the buffer and the result of loadError() changes",
                EdgesOfTextsTest::wrongTextsChangeNothing);
        Check.edge("Promise 4: returns 1 to 4; 0 if the text had no error or there was no such call", () -> {
            TwinBoot boot = new TwinBoot();
            Check.same("loadError() without a call", 0, boot.loadError());
            String[] texts = {"x", "flash 7", "flash 16 5", PLAIN + ";good 0;good 0", PLAIN, "flash 7", PLAIN};
            int[] due = {1, 2, 3, 4, 0, 2, 0};
            for (int i = 0; i < due.length; i++) {
                Check.load(boot, texts[i]);
                Check.same("loadError() of \"" + texts[i] + "\"", due[i], boot.loadError());
            }
        });
        Check.edge("Promise 4: of the latest call of load()", () -> {
            TwinBoot boot = new TwinBoot();
            Check.load(boot, "flash 7");
            Check.append(boot, PLAIN);
            Check.same("loadError() before the next call", 2, boot.loadError());
            boot.load();
            Check.same("loadError() behind the next call", 0, boot.loadError());
        });
    }

    private static void fullBuffer() {
        TwinBoot boot = new TwinBoot();
        for (int k = 1; k <= 112; k++) {
            boot.append(0x2020202020202020L);
        }
        Check.same("append(0) at 896", 896, boot.append(0));
        Check.same("append of eight at 896", FULL, boot.append(0x2020202020202020L));
        Check.same("append of five at 896", FULL, boot.append(0x2020202020L));
        Check.same("append(0) behind FULL", 896, boot.append(0));
        Check.same("append of three at 896", 899, boot.append(0x202020L));
        Check.same("append of two at 899", FULL, boot.append(0x2020L));
        Check.same("append of one at 899", 900, boot.append(0x2000000000000000L));
        for (int shift = 0; shift < 64; shift++) {
            Check.same("append of bit " + shift + " at 900", FULL, boot.append(1L << shift));
        }
        Check.same("append(0) at 900", 900, boot.append(0));
        Check.same("load() of 900 spaces", -1000, boot.load());
        Check.same("append behind load()", 8, boot.append(0x2020202020202020L));
    }

    private static void wrongTextsChangeNothing() {
        String[] texts = {"", "flash 8 4 32 x", "flash 7", "flash 64 5", "flash 8 4 32;tries 1;life 4;tries 1",
            "flash 8 4 32;image 0 9 9;image 1 9 9;floor 9;good 1;"};
        for (String text : texts) {
            TwinBoot boot = Devices.running(Devices.ONE + ";tries 2;floor 1", 7, 8);
            boot.setPower(77);
            String before = Devices.everything(boot);
            Check.same("load() of \"" + text + "\" is refused", true, Check.load(boot, text) <= -100);
            Check.same("a device behind \"" + text + "\"", before, Devices.everything(boot));
        }
    }

    // ---- promises 5 to 8

    private static void promisesOfStagedWords() {
        Check.edge("Promise 5: word is 0 to 65535", () -> {
            TwinBoot boot = new TwinBoot();
            Check.same("stage(0)", 1, boot.stage(0));
            Check.same("stage(65535)", 2, boot.stage(65535));
            Check.same("staged(0)", 0, boot.staged(0));
            Check.same("staged(1)", 65535, boot.staged(1));
        });
        Check.edge("Promise 5: throws IllegalArgumentException if word is out of range", () -> {
            for (int word : new int[] {-1, 65536, Integer.MIN_VALUE, Integer.MAX_VALUE}) {
                TwinBoot boot = new TwinBoot();
                boot.stage(1);
                Devices.throwsBadArgument(boot, "stage(" + word + ")", () -> boot.stage(word));
            }
        });
        Check.edge("Promise 5: FULL if there are WORDS - 3", () -> {
            for (int words : new int[] {8, 16, 64}) {
                TwinBoot boot = Check.device("flash " + words + " 4 12");
                for (int k = 1; k <= words - 3; k++) {
                    Check.same("stage, word " + k, k, boot.stage(k));
                }
                Check.same("stage behind WORDS - 3", FULL, boot.stage(1));
                Check.same("setting(4) behind FULL", words - 3, boot.setting(4));
                Check.same("the last staged word", words - 3, boot.staged(words - 4));
                boot.clearStaged();
                Check.same("stage behind clearStaged()", 1, boot.stage(1));
            }
        });
        Check.edge("6: exceptions come before errors (stage of a wrong word when it is full)", () -> {
            TwinBoot boot = Check.device("flash 8 4 12");
            Check.stage(boot, 1, 2, 3, 4, 5);
            Devices.throwsBadArgument(boot, "stage(-1)", () -> boot.stage(-1));
            Devices.throwsBadArgument(boot, "stage(65536)", () -> boot.stage(65536));
        });
        Check.edge("Promise 6: NONE if there is none", () -> {
            TwinBoot boot = new TwinBoot();
            Check.same("staged(0) of no words", NONE, boot.staged(0));
            Check.stage(boot, 3, 4);
            int[] indices = {-1, 2, 13, 64, Integer.MAX_VALUE, Integer.MIN_VALUE};
            for (int index : indices) {
                Check.same("staged(" + index + ")", NONE, boot.staged(index));
            }
            Check.same("staged(0)", 3, boot.staged(0));
            Check.same("staged(1)", 4, boot.staged(1));
            boot.clearStaged();
            Check.same("staged(0) behind clearStaged()", NONE, boot.staged(0));
        });
        Check.edge("Promise 7: returns how many there were", () -> {
            TwinBoot boot = new TwinBoot();
            Check.same("clearStaged() of none", 0, boot.clearStaged());
            Check.stage(boot, 1, 2, 3, 4, 5, 6, 7, 8, 9, 10, 11, 12, 13);
            Check.same("clearStaged() of all", 13, boot.clearStaged());
            Check.same("clearStaged() again", 0, boot.clearStaged());
            Check.same("setting(4)", 0, boot.setting(4));
        });
        Check.edge("Promise 8: the numbers of the device", () -> {
            TwinBoot boot = Check.device("flash 60 15 31;tries 2;life 999");
            boot.stage(1);
            int[] due = {60, 15, 31, 2, 1, 999};
            for (int what = 0; what <= 5; what++) {
                Check.same("setting(" + what + ")", due[what], boot.setting(what));
            }
        });
        Check.edge("Promise 8: throws IllegalArgumentException if what is out of range", () -> {
            TwinBoot boot = new TwinBoot();
            for (int what : new int[] {-1, 6, Integer.MIN_VALUE, Integer.MAX_VALUE}) {
                Check.badArgument("setting(" + what + ")", () -> boot.setting(what));
            }
        });
    }
}
