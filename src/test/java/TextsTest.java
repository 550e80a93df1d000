import java.util.Random;

/** Promises 1 to 8: a new object, texts and staged words. */
public final class TextsTest {
    private static final String PLAIN = "flash 16 4 12";

    public static void main(String[] args) {
        newObject();
        append();
        rightTexts();
        wrongPlaces();
        wrongRanges();
        wrongMultiplesAndRepetitions();
        loadBeginsAnew();
        wrongLoadChangesNothing();
        whatLoadWrites();
        loadError();
        stage();
        stagedAndClearStaged();
        setting();
        randomTexts();
        Check.end();
    }

    private static void newObject() {
        TwinBoot boot = new TwinBoot();
        int[] settings = {16, 4, 12, 3, 0, 0};
        for (int what = 0; what < settings.length; what++) {
            Check.same("new: setting(" + what + ")", settings[what], boot.setting(what));
        }
        Check.same("new: state()", 0, boot.state());
        Check.same("new: running()", TwinBoot.NONE, boot.running());
        Check.same("new: power()", TwinBoot.NONE, boot.power());
        Check.same("new: operations()", 0, boot.operations());
        Check.same("new: append(0)", 0, boot.append(0));
        Check.same("new: loadError()", 0, boot.loadError());
        Check.same("new: staged(0)", TwinBoot.NONE, boot.staged(0));
        Check.same("new: logSize()", 0, boot.logSize());
        Check.same("new: journalWord(0, 0)", 24582, boot.journalWord(0, 0));
        Check.same("new: journalWord(0, 1)", 65535, boot.journalWord(0, 1));
        Check.same("new: journalWord(1, 0)", 65535, boot.journalWord(1, 0));
        Check.same("new: word(0, 0)", 65535, boot.word(0, 0));
        Check.same("new: word(1, 15)", 65535, boot.word(1, 15));
        Check.same("new: mostWorn()", 0, boot.mostWorn());
        Check.same("new: wear(2, 0)", 0, boot.wear(2, 0));
        Check.same("new: isWhole(0)", false, boot.isWhole(0));
        Check.same("new: restoreSnapshot(0)", TwinBoot.NONE, boot.restoreSnapshot(0));
        Check.same("new: restoreSnapshot(1)", TwinBoot.NONE, boot.restoreSnapshot(1));
        Check.same("NONE", -1, TwinBoot.NONE);
        Check.same("FULL", -2, TwinBoot.FULL);
        Check.same("WRONG_STATE", -3, TwinBoot.WRONG_STATE);
        Check.same("CUT", -4, TwinBoot.CUT);
        Check.same("TOO_OLD", -5, TwinBoot.TOO_OLD);
    }

    private static void append() {
        TwinBoot boot = new TwinBoot();
        Check.same("append(0)", 0, boot.append(0));
        Check.same("append(\"fl\" with zeros between)", 2, boot.append(0x660000000000006CL));
        Check.same("append(\"ash 16 4\")", 10, boot.append(0x6173682031362034L));
        Check.same("append(\" 12\")", 13, boot.append(0x20313200L));
        Check.same("load() of what was appended", 0, boot.load());
        Check.same("append(0) behind load()", 0, boot.append(0));
        for (int k = 1; k <= 112; k++) {
            Check.same("append(-1), call " + k, 8 * k, boot.append(-1));
        }
        Check.same("append beyond 900 by 1", TwinBoot.FULL, boot.append(0x0101010101L));
        Check.same("append(0) behind FULL", 896, boot.append(0));
        Check.same("append up to 900", 900, boot.append(0x8000000000808080L));
        Check.same("append(0) at 900", 900, boot.append(0));
        Check.same("append(1) at 900", TwinBoot.FULL, boot.append(1));
        Check.same("load() of bytes 255", -100, boot.load());
        Check.same("append(1) behind a wrong load()", 1, boot.append(1));
    }

    private static void text(String text, int due, int error) {
        TwinBoot boot = new TwinBoot();
        Check.same("load() of \"" + text + "\"", due, Check.load(boot, text));
        Check.same("loadError() of \"" + text + "\"", error, boot.loadError());
    }

    private static void rightTexts() {
        text(PLAIN, 0, 0);
        text("flash16 4 12", 0, 0);
        text("   flash   16  4  12   ", 0, 0);
        text("flash 8 4 12", 0, 0);
        text("flash 64 16 32", 0, 0);
        text("flash 000000000000000000016 04 012", 0, 0);
        text(PLAIN + ";tries 1", 0, 0);
        text(PLAIN + ";tries3;life1000;floor255;good1;image0 255 65535;image1 1 0", 2, 0);
        text(PLAIN + " ; image 1 7 1 2 3 4 5 6 7 8 9 10 11 12 13 ; tries 1  ", 1, 0);
        text("flash 8 4 12;image 0 1 1 2 3 4 5", 1, 0);
        text(PLAIN + ";good 0;floor 0;life 0", 0, 0);
    }

    private static void wrongPlaces() {
        text("", -100, 1);
        text("   ", -103, 1);
        text("flash", -105, 1);
        text("flash  ", -107, 1);
        text("flash 16 4", -110, 1);
        text(PLAIN + ";", -114, 1);
        text(PLAIN + " ;  ", -117, 1);
        text(PLAIN + ";;", -114, 1);
        text(PLAIN + ";tries 2 ;", -123, 1);
        text("Flash 16 4 12", -100, 1);
        text(" flas 16 4 12", -101, 1);
        text("flashy 16 4 12", -100, 1);
        text("xlash 16 4 12", -100, 1);
        text("flashz 16 4 12", -100, 1);
        text("16 4 12", -100, 1);
        text("tries 2", -100, 1);
        text(PLAIN + " 13", -114, 1);
        text(PLAIN + "tries 3", -113, 1);
        text(PLAIN + ", tries 3", -113, 1);
        text("flash 16\t4 12", -108, 1);
        text("flash -16 4 12", -106, 1);
        text("flash 16;4 12", -108, 1);
        text("flash 16 4 12\u00e9", -113, 1);
        text(PLAIN + ";flash 16 4 12", -114, 1);
        text(PLAIN + "; try 3", -115, 1);
        text(PLAIN + ";triess 3", -114, 1);
        text(PLAIN + ";triesz 3", -114, 1);
        text(PLAIN + ";aries 3", -114, 1);
        text(PLAIN + ";3", -114, 1);
        text(PLAIN + ";tries", -119, 1);
        text(PLAIN + ";tries;", -119, 1);
        text(PLAIN + ";tries 3 3", -122, 1);
        text(PLAIN + ";image", -119, 1);
        text(PLAIN + ";image 0", -121, 1);
        text(PLAIN + ";image 0 1", -123, 1);
        text(PLAIN + ";image 0 1;", -123, 1);
        text(PLAIN + ";image 0 1 5 a", -126, 1);
        text("flash 8 4 12;image 0 1 1 2 3 4 5 6", -133, 1);
        text("flash 8 4 12;image 0 1 1 2 3 4 5 99999", -133, 1);
        text("flash 8 4 12;image 0 1 1 2 3 4 5;", -133, 1);
    }

    private static void wrongRanges() {
        text("flash 7 4 12", -106, 2);
        text("flash 65 4 12", -106, 2);
        text("flash 4294967312 4 12", -106, 2);
        text("flash 18446744073709551632 4 12", -106, 2);
        text("flash 7x", -106, 2);
        text("flash 16 3 12", -109, 2);
        text("flash 16 17 12", -109, 2);
        text("flash 16 0 12", -109, 2);
        text("flash 16 4 11", -111, 2);
        text("flash 16 4 33", -111, 2);
        text(PLAIN + ";tries 0", -120, 2);
        text(PLAIN + ";tries 4", -120, 2);
        text(PLAIN + ";life 1001", -119, 2);
        text(PLAIN + ";floor 256", -120, 2);
        text(PLAIN + ";good 2", -119, 2);
        text(PLAIN + ";image 2 1 5", -120, 2);
        text(PLAIN + ";image 0 0 5", -122, 2);
        text(PLAIN + ";image 0 256 5", -122, 2);
        text(PLAIN + ";image 0 1 65536", -124, 2);
        text(PLAIN + ";image 0 1 0 1 65536;tries 0", -128, 2);
    }

    private static void wrongMultiplesAndRepetitions() {
        text("flash 16 5 12", -109, 3);
        text("flash 16 5 99", -109, 3);
        text("flash 16 5", -109, 3);
        text("flash 8 16 12", -108, 3);
        text(PLAIN + ";tries 3;tries 3", -122, 4);
        text(PLAIN + ";tries 3;tries", -122, 4);
        text(PLAIN + ";life 3; life 9999", -122, 4);
        text(PLAIN + ";floor 3;tries 1;floor 3", -130, 4);
        text(PLAIN + ";good 0;good 1", -121, 4);
        text(PLAIN + ";image 0 1 5;image 0 1 5", -132, 4);
        text(PLAIN + ";image 0 1 5;image 0", -132, 4);
        text(PLAIN + ";image 1 1 5;image 0 1 5;image  1", -145, 4);
        text(PLAIN + ";image 0 1 5;image 2", -132, 2);
    }

    private static TwinBoot busyDevice() {
        TwinBoot boot = Check.device("flash 24 6 14;tries 2;life 9;floor 1;good 0;image 0 3 4 5");
        boot.boot();
        Check.stage(boot, 1, 2, 3);
        boot.update(5);
        Check.stage(boot, 8, 9);
        boot.setPower(50);
        return boot;
    }

    private static void loadBeginsAnew() {
        TwinBoot boot = busyDevice();
        int operations = boot.saveSnapshot(1);
        Check.same("load() of a plain text", 0, Check.load(boot, PLAIN));
        int[] settings = {16, 4, 12, 3, 0, 0};
        for (int what = 0; what < settings.length; what++) {
            Check.same("loaded: setting(" + what + ")", settings[what], boot.setting(what));
        }
        Check.same("loaded: state()", 0, boot.state());
        Check.same("loaded: running()", TwinBoot.NONE, boot.running());
        Check.same("loaded: power()", TwinBoot.NONE, boot.power());
        Check.same("loaded: operations()", 0, boot.operations());
        Check.same("loaded: logSize()", 0, boot.logSize());
        Check.same("loaded: eventCount(0)", 0, boot.eventCount(0));
        Check.same("loaded: eventCount(2)", 0, boot.eventCount(2));
        Check.same("loaded: mostWorn()", 0, boot.mostWorn());
        Check.same("loaded: wear(1, 0)", 0, boot.wear(1, 0));
        Check.same("loaded: zeroBits(0)", 0, boot.zeroBits(0));
        Check.same("loaded: zeroBits(1)", 0, boot.zeroBits(1));
        Check.same("loaded: recordCount()", 0, boot.recordCount());
        Check.same("loaded: restoreSnapshot(1)", operations, boot.restoreSnapshot(1));
        Check.same("loaded: restoreSnapshot(0)", TwinBoot.NONE, boot.restoreSnapshot(0));
        Check.same("restored: setting(0)", 24, boot.setting(0));
    }

    private static void wrongLoadChangesNothing() {
        TwinBoot boot = busyDevice();
        int operations = boot.operations();
        Check.same("a wrong load()", -140, Check.load(boot, "flash 8 4 12;image 0 1 1;life 3;tries 1;z"));
        Check.same("wrong load: append(0)", 0, boot.append(0));
        Check.same("wrong load: setting(0)", 24, boot.setting(0));
        Check.same("wrong load: setting(3)", 2, boot.setting(3));
        Check.same("wrong load: setting(4)", 2, boot.setting(4));
        Check.same("wrong load: setting(5)", 9, boot.setting(5));
        Check.same("wrong load: running()", 0, boot.running());
        Check.same("wrong load: power()", 50, boot.power());
        Check.same("wrong load: operations()", operations, boot.operations());
        Check.same("wrong load: isWhole(1)", true, boot.isWhole(1));
        Check.same("wrong load: told(2)", 1, boot.told(2));
        Check.same("wrong load: logSize()", 2, boot.logSize());
        Check.same("wrong load: staged(1)", 9, boot.staged(1));
    }

    private static void whatLoadWrites() {
        TwinBoot boot = Check.device("flash 16 4 12;good 1;image 1 200 65535 2;floor 7");
        // 200 + 3 * 2 + 1 * 65535 + 2 * 2 = 65745, modulo 65536 = 209
        int[] due = {200, 2, 209, 65535, 2, 65535};
        for (int i = 0; i < due.length; i++) {
            Check.same("image: word(1, " + i + ")", due[i], boot.word(1, i));
        }
        Check.same("image: zeroBits(0)", 0, boot.zeroBits(0));
        int[] journal = {24582, 4216, 8211, 65535};
        for (int i = 0; i < journal.length; i++) {
            Check.same("journalWord(0, " + i + ")", journal[i], boot.journalWord(0, i));
            Check.same("journalWord(1, " + i + ")", 65535, boot.journalWord(1, i));
        }
        boot = Check.device("flash 16 4 12;floor 0;good 0");
        Check.same("floor 0: journalWord(0, 1)", 8194, boot.journalWord(0, 1));
        boot = Check.device("flash 16 4 12;floor 255");
        Check.same("floor 255: journalWord(0, 1)", 8191, boot.journalWord(0, 1));
    }

    private static void loadError() {
        TwinBoot boot = new TwinBoot();
        Check.load(boot, "flash 7");
        Check.same("loadError() of a number out of its range", 2, boot.loadError());
        boot.append(65);
        Check.same("loadError() before the next load()", 2, boot.loadError());
        boot.saveSnapshot(0);
        boot.load();
        boot.restoreSnapshot(0);
        Check.same("loadError() is not in a snapshot", 1, boot.loadError());
        Check.load(boot, PLAIN);
        Check.same("loadError() behind a right load()", 0, boot.loadError());
    }

    private static void stage() {
        TwinBoot boot = new TwinBoot();
        Check.badArgument("stage(-1)", () -> boot.stage(-1));
        Check.badArgument("stage(65536)", () -> boot.stage(65536));
        for (int k = 1; k <= 13; k++) {
            Check.same("stage, word " + k, k, boot.stage(k == 1 ? 65535 : k == 2 ? 0 : k));
        }
        Check.same("stage beyond WORDS - 3", TwinBoot.FULL, boot.stage(1));
        Check.badArgument("stage(65536) when full", () -> boot.stage(65536));
        Check.same("staged(0)", 65535, boot.staged(0));
        Check.same("staged(1)", 0, boot.staged(1));
        Check.same("staged(12)", 13, boot.staged(12));
        TwinBoot large = Check.device("flash 64 4 12");
        for (int k = 1; k <= 61; k++) {
            Check.same("stage in a large device, word " + k, k, large.stage(k));
        }
        Check.same("stage beyond 61", TwinBoot.FULL, large.stage(1));
    }

    private static void stagedAndClearStaged() {
        TwinBoot boot = new TwinBoot();
        Check.stage(boot, 5, 6);
        Check.same("staged(-1)", TwinBoot.NONE, boot.staged(-1));
        Check.same("staged(1)", 6, boot.staged(1));
        Check.same("staged(2)", TwinBoot.NONE, boot.staged(2));
        Check.same("staged(MAX)", TwinBoot.NONE, boot.staged(Integer.MAX_VALUE));
        Check.same("staged(MIN)", TwinBoot.NONE, boot.staged(Integer.MIN_VALUE));
        Check.same("clearStaged()", 2, boot.clearStaged());
        Check.same("clearStaged() again", 0, boot.clearStaged());
        Check.same("staged(0) when clear", TwinBoot.NONE, boot.staged(0));
        Check.same("stage when clear", 1, boot.stage(9));
    }

    private static void setting() {
        TwinBoot boot = Check.device("flash 36 12 29;life 77;tries 2");
        Check.stage(boot, 1, 2, 3, 4);
        int[] due = {36, 12, 29, 2, 4, 77};
        for (int what = 0; what < due.length; what++) {
            Check.same("setting(" + what + ")", due[what], boot.setting(what));
        }
        Check.badArgument("setting(-1)", () -> boot.setting(-1));
        Check.badArgument("setting(6)", () -> boot.setting(6));
    }

    /** Texts of random pieces, read by TwinBoot and by the model. */
    private static void randomTexts() {
        String[] pieces = {"flash", "tries", "life", "image", "floor", "good", ";", ";", ";", " ", " ", " ; ", "0", "1",
            "2", "3", "16", "4", "12", "255", "256", "65535", "65536", "1000", "1001", "a", "Z", "-", "99999999999",
            ";image 0 3 1 2 3", ";image 1 1 7", ";good 0", ";floor 3", ";tries 2", ";life 5", "image 1", " 8 5 ", "\u0080"};
        String[] starts = {"", "flash ", "flash 16 4 12", "flash 16 4 12;", "flash 8 4 32;image 0 1 2 3",
            "flash 24 8 20;tries 2"};
        Random random = new Random(7);
        TwinBoot boot = new TwinBoot();
        Model model = new Model();
        for (int round = 0; round < 20000; round++) {
            if (round % 20 == 0) {
                boot = new TwinBoot();
                model = new Model();
            }
            StringBuilder text = new StringBuilder(starts[random.nextInt(starts.length)]);
            int count = random.nextInt(9);
            for (int i = 0; i < count; i++) {
                text.append(pieces[random.nextInt(pieces.length)]);
            }
            for (int i = 0; i < text.length(); i++) {
                model.append(text.charAt(i));
            }
            Check.same("load() of \"" + text + "\"", model.load(), Check.load(boot, text.toString()));
            Check.same("loadError() of \"" + text + "\"", model.loadError, boot.loadError());
            Check.same("setting(0) of \"" + text + "\"", model.setting(0), boot.setting(0));
            Check.same("setting(3) of \"" + text + "\"", model.setting(3), boot.setting(3));
            Check.same("setting(5) of \"" + text + "\"", model.setting(5), boot.setting(5));
            Check.same("told(0) of \"" + text + "\"", model.told(0), boot.told(0));
            Check.same("zeroBits(0) of \"" + text + "\"", model.zeroBits(0), boot.zeroBits(0));
            Check.same("zeroBits(1) of \"" + text + "\"", model.zeroBits(1), boot.zeroBits(1));
        }
    }
}
