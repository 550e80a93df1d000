/** Promises 9 to 20: power, boots, updates and recoveries. */
public final class RunningTest {
    private static final int NONE = TwinBoot.NONE;
    private static final int WRONG_STATE = TwinBoot.WRONG_STATE;
    private static final int CUT = TwinBoot.CUT;
    private static final int TOO_OLD = TwinBoot.TOO_OLD;
    private static final String ONE = "flash 16 4 12;image 0 2 10 20;good 0";
    private static final String BOTH = "flash 16 4 12;image 0 2 10 20;image 1 3 30;good 0";

    public static void main(String[] args) {
        power();
        bootOfGoodAndOthers();
        bootOfNew();
        bootOfSpoiledJournal();
        bootIsCut();
        runningStateAndOff();
        update();
        updateIsRefused();
        updateIsCut();
        updateOfWornPages();
        thriftyUpdate();
        mirror();
        moveJournal();
        journalIsMovedWhenFull();
        movedRecords();
        confirm();
        recover();
        Check.end();
    }

    private static TwinBoot running(String text, int... staged) {
        TwinBoot boot = Check.device(text);
        boot.boot();
        Check.stage(boot, staged);
        return boot;
    }

    private static void words(String what, TwinBoot boot, int slot, int from, int... due) {
        for (int i = 0; i < due.length; i++) {
            Check.same(what + ": word(" + slot + ", " + (from + i) + ")", due[i], boot.word(slot, from + i));
        }
    }

    private static void journal(String what, TwinBoot boot, int page, int from, int... due) {
        for (int i = 0; i < due.length; i++) {
            int index = from + i;
            Check.same(what + ": journalWord(" + page + ", " + index + ")", due[i], boot.journalWord(page, index));
        }
    }

    private static void power() {
        TwinBoot boot = new TwinBoot();
        Check.badArgument("setPower(-2)", () -> boot.setPower(-2));
        Check.badArgument("setPower(100001)", () -> boot.setPower(100001));
        Check.same("setPower(100000)", NONE, boot.setPower(100000));
        Check.same("setPower(0)", 100000, boot.setPower(0));
        Check.same("power()", 0, boot.power());
        Check.same("setPower(NONE)", 0, boot.setPower(NONE));
        Check.same("power() without limit", NONE, boot.power());
        TwinBoot running = running(ONE, 7);
        running.setPower(20);
        Check.same("update(2) with power", 9, running.update(2));
        Check.same("power() behind 9 operations", 11, running.power());
        Check.same("setPower(3)", 11, running.setPower(3));
        Check.same("mirror() without enough power", CUT, running.mirror());
        Check.same("power() behind a cut", 0, running.power());
        Check.same("operations() behind a cut", 13, running.operations());
        TwinBoot exact = running(ONE, 7);
        exact.setPower(9);
        Check.same("update(2) with just enough power", 9, exact.update(2));
        Check.same("power() when it is just enough", 0, exact.power());
        Check.same("state() when power is just enough", 1, exact.state());
    }

    private static void bootOfGoodAndOthers() {
        TwinBoot empty = new TwinBoot();
        Check.same("boot() of an empty device", NONE, empty.boot());
        Check.same("state() of an empty device", 2, empty.state());
        Check.same("eventCount(7)", 1, empty.eventCount(7));
        Check.same("boot() again", NONE, empty.boot());
        Check.same("boot() of the good slot", 0, Check.device(BOTH).boot());
        Check.same("boot() of the good slot 1", 1, Check.device(BOTH.replace("good 0", "good 1")).boot());
        Check.same("boot() without a good slot", 0, Check.device("flash 16 4 12;image 1 3 30;image 0 2 1").boot());
        Check.same("boot() of slot 1 alone", 1, Check.device("flash 16 4 12;image 1 3 30").boot());
        Check.same("boot() with an empty good slot", 0, Check.device("flash 16 4 12;image 0 2 1;good 1").boot());
        Check.same("boot() at the floor", 0, Check.device(ONE + ";floor 2").boot());
        Check.same("boot() below the floor", NONE, Check.device(ONE + ";floor 3").boot());
        Check.same("boot() of another than the good slot", 1, Check.device(BOTH + ";floor 3").boot());
        TwinBoot damaged = Check.device(BOTH);
        damaged.damage(0, 4, 4);
        Check.same("boot() with a damaged good slot", 1, damaged.boot());
        Check.same("told(1) behind it", 0, damaged.told(1));
        Check.same("operations() of these boots", 0, damaged.operations());
    }

    private static void bootOfNew() {
        TwinBoot boot = running(ONE + ";tries 2", 7);
        boot.update(9);
        Check.same("boot() of the new slot", 1, boot.boot());
        Check.same("boot() of the new slot again", 1, boot.boot());
        journal("two tries", boot, 0, 1, 8194, 12308, 16405, 16405, 65535);
        Check.same("boot() behind all tries", 0, boot.boot());
        journal("all tries", boot, 0, 5, 20502, 65535);
        Check.same("told(4) behind all tries", 2, boot.told(4));
        Check.same("boot() of the old slot", 0, boot.boot());
        Check.same("operations() of these calls", 9 - 1 + 1 + 3, boot.operations());
        TwinBoot broken = running(ONE, 7);
        broken.update(9);
        broken.damage(1, 3, 1);
        Check.same("boot() of a broken new slot", 0, broken.boot());
        journal("a broken new slot", broken, 0, 2, 12308, 20502, 65535);
        TwinBoot good = running(BOTH, 7);
        good.update(9);
        good.damage(0, 3, 65535);
        good.boot();
        good.boot();
        good.boot();
        Check.same("boot() when nothing is left", NONE, good.boot());
        Check.same("told(4) when nothing is left", 2, good.told(4));
        TwinBoot twice = running(ONE, 7);
        twice.update(9);
        twice.boot();
        twice.boot();
        twice.boot();
        Check.same("told(3) of three tries", 3, twice.told(3));
        Check.same("boot() behind three tries", 0, twice.boot());
    }

    private static void bootOfSpoiledJournal() {
        TwinBoot boot = Check.device(BOTH.replace("good 0", "good 1"));
        boot.damageJournal(0, 0, 2);
        Check.same("boot() without an active page", 0, boot.boot());
        Check.same("operations() of a format", 2, boot.operations());
        journal("formatted", boot, 0, 0, 24582, 65535, 65535);
        Check.same("wear(2, 0) of a format", 1, boot.wear(2, 0));
        Check.same("eventCount(6)", 1, boot.eventCount(6));
        TwinBoot cut = Check.device(BOTH);
        cut.damageJournal(0, 0, 2);
        cut.damageJournal(0, 5, 65535);
        cut.damageJournal(0, 6, 65535);
        cut.setPower(0);
        Check.same("boot() with a torn erasure", CUT, cut.boot());
        journal("a torn erasure of a journal page", cut, 0, 0, 65535, 65535, 65535, 65535, 65535, 65535, 0, 65535);
        Check.same("wear(2, 0) of a torn erasure", 1, cut.wear(2, 0));
        cut.setPower(1);
        Check.same("boot() with a torn HEAD", CUT, cut.boot());
        journal("a torn HEAD", cut, 0, 0, 65286, 65535, 65535, 65535, 65535, 65535, 65535);
        Check.same("eventCount(6) behind two cuts", 0, cut.eventCount(6));
        Check.same("eventCount(1) behind two cuts", 2, cut.eventCount(1));
    }

    private static void bootIsCut() {
        TwinBoot boot = running(ONE, 7);
        boot.update(9);
        boot.setPower(0);
        Check.same("boot() with a torn TRY", CUT, boot.boot());
        Check.same("state() behind a cut boot", 0, boot.state());
        Check.same("running() behind a cut boot", NONE, boot.running());
        Check.same("spoiled() behind a torn TRY", 1, boot.spoiled());
        Check.same("told(3) behind a torn TRY", 0, boot.told(3));
        Check.same("operations() behind a torn TRY", 10, boot.operations());
        boot.setPower(1);
        Check.same("boot() with power for TRY", 1, boot.boot());
        Check.same("power() behind it", 0, boot.power());
        Check.same("boot() is cut again", CUT, boot.boot());
        Check.same("running() behind it", NONE, boot.running());
        TwinBoot old = Check.device(ONE);
        old.setPower(0);
        Check.same("boot() without an operation and without power", 0, old.boot());
    }

    private static void runningStateAndOff() {
        TwinBoot boot = Check.device(ONE);
        Check.same("off() when off", false, boot.off());
        boot.boot();
        Check.same("running()", 0, boot.running());
        Check.same("state()", 1, boot.state());
        Check.same("off() when running", true, boot.off());
        Check.same("running() when off", NONE, boot.running());
        Check.same("state() when off", 0, boot.state());
        Check.same("operations() of off()", 0, boot.operations());
        boot.damage(0, 0, 65535);
        boot.boot();
        Check.same("state() when waiting", 2, boot.state());
        Check.same("running() when waiting", NONE, boot.running());
        Check.same("off() when waiting", true, boot.off());
        Check.same("state() behind it", 0, boot.state());
        Check.same("logSize() behind off()", 2, boot.logSize());
    }

    private static void update() {
        TwinBoot boot = running("flash 20 5 12;image 0 2 10 20;image 1 3 1 2 3 4 5 6;good 0", 7, 65535, 0);
        Check.same("update(9)", 4 + 2 + 3 + 1, boot.update(9));
        // 9 + 3 * 3 + 7 + 2 * 65535 = 131095, modulo 65536 = 23
        words("update(9)", boot, 1, 0, 9, 3, 23, 7, 65535, 0, 65535, 65535);
        words("the running slot", boot, 0, 0, 2, 2, 2 + 6 + 10 + 40, 10, 20);
        journal("update(9)", boot, 0, 1, 8194, 12308, 65535);
        for (int page = 0; page < 4; page++) {
            Check.same("wear(1, " + page + ")", 1, boot.wear(1, page));
            Check.same("wear(0, " + page + ")", 0, boot.wear(0, page));
        }
        Check.same("setting(4) behind update(9)", 0, boot.setting(4));
        Check.same("running() behind update(9)", 0, boot.running());
        Check.same("state() behind update(9)", 1, boot.state());
        Check.stage(boot, 1);
        Check.same("update(255) without a boot", 4 + 1 + 3 + 1, boot.update(255));
        boot.boot();
        boot.confirm();
        Check.stage(boot, 1);
        Check.same("update(255) of slot 0", 4 + 1 + 3 + 1, boot.update(255));
        Check.same("told(2) of slot 0", 0, boot.told(2));
        Check.same("boot() of slot 0", 0, boot.boot());
    }

    private static void updateIsRefused() {
        TwinBoot boot = Check.device(BOTH + ";floor 2");
        Check.stage(boot, 7);
        Check.badArgument("update(0)", () -> boot.update(0));
        Check.badArgument("update(256)", () -> boot.update(256));
        Check.badArgument("thriftyUpdate(0)", () -> boot.thriftyUpdate(0));
        Check.badArgument("thriftyUpdate(256)", () -> boot.thriftyUpdate(256));
        Check.same("update(1) when off", WRONG_STATE, boot.update(1));
        boot.boot();
        Check.same("update(1) below the floor", TOO_OLD, boot.update(1));
        Check.same("thriftyUpdate(1) below the floor", TOO_OLD, boot.thriftyUpdate(1));
        boot.clearStaged();
        Check.same("update(1) without staged words", WRONG_STATE, boot.update(1));
        Check.same("thriftyUpdate(1) without staged words", WRONG_STATE, boot.thriftyUpdate(1));
        Check.stage(boot, 7);
        Check.same("update(2) at the floor", 9, boot.update(2));
        boot.boot();
        Check.stage(boot, 7);
        Check.same("update(1) of the good slot", WRONG_STATE, boot.update(1));
        Check.same("thriftyUpdate(1) of the good slot", WRONG_STATE, boot.thriftyUpdate(1));
        Check.same("staged(0) behind an error", 7, boot.staged(0));
        Check.same("operations() behind errors", 10, boot.operations());
        TwinBoot noGood = running("flash 16 4 12;image 0 2 10", 7);
        Check.same("update(3) without a good slot", WRONG_STATE, noGood.update(3));
        TwinBoot waiting = running("flash 16 4 12", 7);
        Check.same("update(3) when waiting", WRONG_STATE, waiting.update(3));
        TwinBoot spoiled = running(ONE, 7);
        spoiled.damageJournal(0, 0, 65535);
        Check.same("update(3) without an active page", WRONG_STATE, spoiled.update(3));
    }

    private static void updateIsCut() {
        TwinBoot boot = running("flash 20 5 12;image 0 2 10 20;image 1 3 1 2 3 4 5 6;good 0", 0x1234);
        boot.setPower(0);
        Check.same("update(9) with a torn erasure", CUT, boot.update(9));
        words("a torn erasure", boot, 1, 0, 65535, 65535, 112, 1, 2, 3, 4, 5, 6, 65535);
        Check.same("wear(1, 0) of a torn erasure", 1, boot.wear(1, 0));
        Check.same("wear(1, 1) of a torn erasure", 0, boot.wear(1, 1));
        Check.same("operations() of a torn erasure", 1, boot.operations());
        Check.same("state() of a cut update", 0, boot.state());
        Check.same("staged(0) of a cut update", 0x1234, boot.staged(0));
        boot.boot();
        boot.setPower(4);
        Check.same("update(9) with a torn word", CUT, boot.update(9));
        words("a torn word", boot, 1, 0, 65535, 65535, 65535, 0xFF34, 65535);
        boot.boot();
        boot.setPower(7);
        Check.same("update(9) with a torn word 0", CUT, boot.update(9));
        words("a torn word 0", boot, 1, 0, 0xFF09, 1, 9 + 3 + 0x1234, 0x1234, 65535);
        boot.boot();
        boot.setPower(8);
        Check.same("update(9) with a torn NEW", CUT, boot.update(9));
        journal("a torn NEW", boot, 0, 2, 0xFF14, 65535);
        Check.same("isWhole(1) of a torn NEW", true, boot.isWhole(1));
        Check.same("told(2) of a torn NEW", NONE, boot.told(2));
        Check.same("eventCount(2) of a torn NEW", 0, boot.eventCount(2));
        Check.same("eventCount(1) of all cuts", 4, boot.eventCount(1));
    }

    private static void updateOfWornPages() {
        TwinBoot boot = running("flash 16 4 12;image 0 2 10 20;image 1 2 4;good 0;life 1", 6, 8);
        boot.update(4);
        words("the first erasure", boot, 1, 0, 4, 2, 4 + 6 + 6 + 16, 6, 8, 65535, 65535);
        Check.same("wornOut(1) behind one erasure", 0, boot.wornOut(1));
        Check.stage(boot, 6, 9);
        Check.same("update(4) of worn pages", 10, boot.update(4));
        words("the second erasure", boot, 1, 0, 4, 2, 4 + 6 + 6 + 18, 6, 8, 65534, 65534);
        Check.same("isWhole(1) of worn pages", false, boot.isWhole(1));
        Check.same("wornOut(1) behind two erasures", 15, boot.wornOut(1));
        Check.same("boot() of worn pages", 0, boot.boot());
        Check.stage(boot, 65535, 65534);
        Check.same("update(4) writes what cannot be", 9, boot.update(4));
        words("erased words of worn pages", boot, 1, 3, 65534, 65534, 65534);
        boot.boot();
        boot.setPower(1);
        Check.stage(boot, 1);
        boot.update(4);
        words("a torn erasure of a worn page", boot, 1, 4, 65534, 65534, 65534);
        for (int i = 0; i < 20; i++) {
            boot.setPower(NONE);
            boot.boot();
            boot.moveJournal();
        }
        journal("journal pages never wear out", boot, boot.activePage(), 0, 24576 + 16 * boot.generation()
                + (6 + boot.generation() / 16 + boot.generation() % 16) % 16);
        Check.same("the last journal word", 65535, boot.journalWord(boot.activePage(), 11));
    }

    private static void thriftyUpdate() {
        String text = "flash 16 4 12;image 0 2 10 20;image 1 2 1 255 255 255 255 7 7 7 7 1;good 0";
        TwinBoot boot = running(text, 1, 15, 255, 240, 0, 7, 8);
        // word 9 is 7 and cannot become 8; words 4 to 7 can become the staged ones
        Check.same("thriftyPages()", 1 + 4, boot.thriftyPages());
        Check.same("thriftyUpdate(9)", 2 + 6 + 3 + 1, boot.thriftyUpdate(9));
        words("thriftyUpdate(9)", boot, 1, 0, 9, 7);
        words("thriftyUpdate(9)", boot, 1, 3, 1, 15, 255, 240, 0, 7, 8, 65535, 65535, 1, 65535);
        int[] wear = {1, 0, 1, 0};
        for (int page = 0; page < 4; page++) {
            Check.same("wear(1, " + page + ") of thriftyUpdate(9)", wear[page], boot.wear(1, page));
        }
        Check.same("isWhole(1) of thriftyUpdate(9)", true, boot.isWhole(1));
        Check.same("setting(4) of thriftyUpdate(9)", 0, boot.setting(4));
        Check.same("boot() of thriftyUpdate(9)", 1, boot.boot());
        TwinBoot behind = running(text, 1, 255);
        Check.same("thriftyUpdate(9) leaves what is behind the payload", 1 + 1 + 3 + 1, behind.thriftyUpdate(9));
        words("what is behind the payload", behind, 1, 4, 255, 255, 255, 255, 7, 7, 7, 7, 1, 65535);
        TwinBoot cut = running(text, 1, 15);
        cut.setPower(1);
        Check.same("thriftyUpdate(9) with a torn word", CUT, cut.thriftyUpdate(9));
        words("a torn word", cut, 1, 3, 65281, 255);
        Check.same("staged(1) of a cut", 15, cut.staged(1));
    }

    private static void mirror() {
        TwinBoot boot = Check.device("flash 16 4 12;image 0 2 10 65535;image 1 3 30;good 0;floor 1");
        Check.same("mirror() when off", WRONG_STATE, boot.mirror());
        boot.boot();
        Check.stage(boot, 7);
        Check.same("mirror()", 4 + 1 + 3 + 1, boot.mirror());
        Check.same("differences() of mirror()", 0, boot.differences());
        journal("mirror()", boot, 0, 2, 8194, 8194, 65535);
        Check.same("staged(0) of mirror()", 7, boot.staged(0));
        Check.same("running() of mirror()", 0, boot.running());
        Check.same("eventCount(3) of mirror()", 1, boot.eventCount(3));
        boot.setPower(8);
        Check.same("mirror() with a torn GOOD", CUT, boot.mirror());
        boot.setPower(NONE);
        boot.boot();
        boot.damage(0, 3, 2);
        Check.same("mirror() of a slot that is not whole", WRONG_STATE, boot.mirror());
        TwinBoot noGood = running("flash 16 4 12;image 0 2 10");
        Check.same("mirror() without a good slot", WRONG_STATE, noGood.mirror());
        TwinBoot fresh = running(ONE, 7);
        fresh.update(5);
        fresh.boot();
        Check.same("mirror() of the new slot", WRONG_STATE, fresh.mirror());
        fresh.confirm();
        Check.same("mirror() of slot 1", 9, fresh.mirror());
        words("mirror() of slot 1", fresh, 0, 0, 5, 1, 15, 7, 65535);
    }

    private static void moveJournal() {
        TwinBoot boot = Check.device(ONE + ";floor 2");
        Check.same("moveJournal() when off", WRONG_STATE, boot.moveJournal());
        boot.boot();
        Check.same("moveJournal()", 1, boot.moveJournal());
        Check.same("operations() of moveJournal()", 4, boot.operations());
        journal("moveJournal()", boot, 1, 0, 24599, 4096 + 32 + 3, 8194, 65535);
        journal("the old page", boot, 0, 0, 24582, 4096 + 32 + 3, 8194, 65535);
        Check.same("eventCount(5)", 1, boot.eventCount(5));
        Check.same("wear(2, 1)", 1, boot.wear(2, 1));
        Check.same("moveJournal() back", 0, boot.moveJournal());
        Check.same("generation()", 2, boot.generation());
        boot.setPower(3);
        Check.same("moveJournal() with a torn HEAD", CUT, boot.moveJournal());
        Check.same("activePage() behind a torn HEAD", 0, boot.activePage());
        journal("a torn HEAD", boot, 1, 0, 0xFF00 + (24576 + 48 + 9) % 256, 4096 + 32 + 3, 8194, 65535);
        boot.setPower(NONE);
        boot.damage(0, 0, 65535);
        boot.boot();
        Check.same("moveJournal() when waiting", 1, boot.moveJournal());
        Check.same("state() when waiting", 2, boot.state());
        boot.damageJournal(0, 0, 65535);
        boot.damageJournal(1, 0, 65535);
        Check.same("moveJournal() without an active page", WRONG_STATE, boot.moveJournal());
        TwinBoot far = Check.device("flash 16 4 12");
        far.boot();
        for (int i = 1; i <= 300; i++) {
            Check.same("moveJournal(), call " + i, i % 2, far.moveJournal());
        }
        Check.same("generation() behind 300 moves", 44, far.generation());
    }

    private static void journalIsMovedWhenFull() {
        TwinBoot boot = Check.device(ONE);
        boot.boot();
        for (int i = 0; i < 10; i++) {
            boot.mirror();
        }
        Check.same("freeWords() of a full page", 0, boot.freeWords());
        Check.same("mirror() with a full page", 10 + 1 + 1 + 1, boot.mirror());
        Check.same("activePage() behind it", 1, boot.activePage());
        journal("moved when full", boot, 1, 0, 24599, 8194, 8194, 65535);
        Check.same("logEntry of the move", 5, boot.logEntry(boot.logSize() - 2, 0));
        Check.same("logEntry of the move, its page", 1, boot.logEntry(boot.logSize() - 2, 1));
        Check.same("logEntry of the move, its time", boot.operations() - 1, boot.logEntry(boot.logSize() - 2, 2));
        Check.same("logEntry of GOOD", 3, boot.logEntry(boot.logSize() - 1, 0));
        Check.same("eventCount(3)", 11, boot.eventCount(3));
    }

    private static void movedRecords() {
        TwinBoot boot = running(ONE + ";floor 1", 7);
        boot.update(9);
        boot.boot();
        boot.boot();
        boot.moveJournal();
        journal("a new slot is moved", boot, 1, 0, 24599, 4096 + 16 + 2, 8194, 12308, 16405, 16405, 65535);
        boot.boot();
        boot.boot();
        boot.moveJournal();
        journal("a bad slot is moved", boot, 0, 0, 24576 + 32 + 8, 4096 + 16 + 2, 8194, 20502, 65535);
    }

    private static void confirm() {
        TwinBoot boot = running(BOTH, 7);
        Check.same("confirm() of the good slot", WRONG_STATE, boot.confirm());
        boot.update(9);
        Check.same("confirm() of a slot that does not run", WRONG_STATE, boot.confirm());
        boot.off();
        Check.same("confirm() when off", WRONG_STATE, boot.confirm());
        boot.boot();
        Check.same("confirm()", 9, boot.confirm());
        journal("confirm()", boot, 0, 2, 12308, 16405, 8211, 4096 + 144 + 10, 65535);
        Check.same("confirm() again", WRONG_STATE, boot.confirm());
        Check.same("running() behind confirm()", 1, boot.running());
        TwinBoot equal = running(BOTH + ";floor 2", 7);
        equal.update(2);
        equal.boot();
        Check.same("confirm() at the floor", 2, equal.confirm());
        journal("confirm() at the floor", equal, 0, 5, 8211, 65535);
        TwinBoot cut = running(BOTH, 7);
        cut.update(9);
        cut.boot();
        cut.setPower(1);
        Check.same("confirm() with a torn FLOOR", CUT, cut.confirm());
        journal("a torn FLOOR", cut, 0, 4, 8211, 0xFF00 + 144 + 10, 65535);
        Check.same("told(1) behind a torn FLOOR", 1, cut.told(1));
        Check.same("told(0) behind a torn FLOOR", 0, cut.told(0));
        Check.same("state() behind a torn FLOOR", 0, cut.state());
        TwinBoot first = running(BOTH, 7);
        first.update(9);
        first.boot();
        first.setPower(0);
        Check.same("confirm() with a torn GOOD", CUT, first.confirm());
        Check.same("told(1) behind a torn GOOD", 0, first.told(1));
        TwinBoot damaged = running(BOTH, 7);
        damaged.update(9);
        damaged.boot();
        damaged.damage(1, 0, 65535);
        Check.same("confirm() of a slot whose version is gone", 0, damaged.confirm());
    }

    private static void recover() {
        TwinBoot boot = Check.device("flash 16 4 12;floor 5");
        Check.stage(boot, 7, 65535);
        Check.badArgument("recover(2, 5)", () -> boot.recover(2, 5));
        Check.badArgument("recover(-1, 5)", () -> boot.recover(-1, 5));
        Check.badArgument("recover(0, 0)", () -> boot.recover(0, 0));
        Check.badArgument("recover(0, 256)", () -> boot.recover(0, 256));
        Check.same("recover(1, 4) when off", WRONG_STATE, boot.recover(1, 4));
        boot.boot();
        Check.same("recover(1, 4) below the floor", TOO_OLD, boot.recover(1, 4));
        boot.setPower(8);
        Check.same("recover(1, 5) with a torn GOOD", CUT, boot.recover(1, 5));
        Check.same("setting(4) of a cut recovery", 2, boot.setting(4));
        boot.setPower(NONE);
        Check.same("boot() of what was recovered", 1, boot.boot());
        boot.damage(1, 3, 65535);
        Check.same("boot() of what is damaged", NONE, boot.boot());
        Check.same("recover(0, 5)", 4 + 1 + 3 + 1, boot.recover(0, 5));
        words("recover(0, 5)", boot, 0, 0, 5, 2, (5 + 6 + 7 + 2 * 65535) % 65536, 7, 65535);
        Check.same("state() of recover(0, 5)", 0, boot.state());
        Check.same("setting(4) of recover(0, 5)", 0, boot.setting(4));
        Check.same("told(1) of recover(0, 5)", 0, boot.told(1));
        Check.same("told(2) of recover(0, 5)", NONE, boot.told(2));
        Check.same("eventCount(3) of recover(0, 5)", 1, boot.eventCount(3));
        Check.same("boot() of recover(0, 5)", 0, boot.boot());
        Check.stage(boot, 7);
        Check.same("recover(1, 6) when running", WRONG_STATE, boot.recover(1, 6));
        TwinBoot empty = new TwinBoot();
        empty.boot();
        Check.same("recover(0, 1) without staged words", WRONG_STATE, empty.recover(0, 1));
        Check.stage(empty, 3);
        empty.damageJournal(0, 0, 65535);
        Check.same("recover(0, 1) formats the journal", 4 + 1 + 3 + 2 + 1, empty.recover(0, 1));
        journal("recover(0, 1)", empty, 0, 0, 24582, 8194, 65535);
        for (int power = 8; power <= 10; power++) {
            TwinBoot cut = new TwinBoot();
            cut.boot();
            Check.stage(cut, 3);
            cut.damageJournal(0, 0, 65535);
            cut.setPower(power);
            Check.same("recover(0, 1) with power " + power, CUT, cut.recover(0, 1));
            Check.same("operations() with power " + power, power + 1, cut.operations());
            Check.same("eventCount(6) with power " + power, power == 10 ? 1 : 0, cut.eventCount(6));
        }
        TwinBoot forgets = Check.device("flash 16 4 12;floor 5");
        forgets.boot();
        Check.stage(forgets, 3);
        forgets.damageJournal(0, 1, 65535);
        Check.same("recover(0, 4) when FLOOR is gone", 8 + 1, forgets.recover(0, 4));
    }
}
