/** Promises 43 to 59: predictions, told by hand and compared with what the device then does. */
public final class PredictionsTest {
    private interface Maker {
        TwinBoot make();
    }

    private static final int NONE = TwinBoot.NONE;
    private static final int FULL = TwinBoot.FULL;
    private static final int WRONG_STATE = TwinBoot.WRONG_STATE;
    private static final int CUT = TwinBoot.CUT;
    private static final int TOO_OLD = TwinBoot.TOO_OLD;
    private static final String ONE = "flash 16 4 12;image 0 2 10 20;good 0";

    public static void main(String[] args) {
        bootWould();
        safeUpdate();
        unsafeUpdate();
        unsafeUpdateOfWornPages();
        updateOfNewSlot();
        updateWithFullJournal();
        errors();
        wrongArguments();
        updatesLeft();
        thrifty();
        bootsToRollback();
        firstBootCut();
        recordsLeft();
        predictionsChangeNothing();
        predictionsHavePower();
        predictionsComeTrue("a safe device", PredictionsTest::safe);
        predictionsComeTrue("a device with a broken good slot", PredictionsTest::unsafe);
        predictionsComeTrue("a device with a pending new slot", PredictionsTest::pending);
        predictionsComeTrue("a device with a full journal", PredictionsTest::full);
        predictionsComeTrue("a worn device", PredictionsTest::worn);
        predictionsComeTrue("a device that is off", PredictionsTest::offAndPending);
        Check.end();
    }

    // ---- devices

    private static TwinBoot safe() {
        TwinBoot boot = Check.device(ONE);
        boot.boot();
        Check.stage(boot, 7, 65535);
        return boot;
    }

    private static TwinBoot unsafe() {
        TwinBoot boot = safe();
        boot.damage(0, 3, 65535);
        return boot;
    }

    private static TwinBoot pending() {
        TwinBoot boot = safe();
        boot.update(3);
        Check.stage(boot, 8);
        return boot;
    }

    private static TwinBoot full() {
        TwinBoot boot = safe();
        for (int i = 0; i < 10; i++) {
            boot.mirror();
        }
        return boot;
    }

    private static TwinBoot worn() {
        TwinBoot boot = Check.device(ONE + ";life 2;tries 2;floor 1");
        boot.boot();
        boot.mirror();
        boot.mirror();
        Check.stage(boot, 6, 8);
        return boot;
    }

    private static TwinBoot offAndPending() {
        TwinBoot boot = pending();
        boot.off();
        return boot;
    }

    // ---- what is told by hand

    private static void bootWould() {
        TwinBoot empty = new TwinBoot();
        Check.same("bootWould() of an empty device", NONE, empty.bootWould());
        Check.same("bootOperations() of an empty device", 0, empty.bootOperations());
        Check.same("bootWould() of a good slot", 0, safe().bootWould());
        Check.same("bootOperations() of a good slot", 0, safe().bootOperations());
        Check.same("bootWould() of a new slot", 1, pending().bootWould());
        Check.same("bootOperations() of a new slot", 1, pending().bootOperations());
        Check.same("bootWould() when off", 1, offAndPending().bootWould());
        TwinBoot broken = pending();
        broken.damage(1, 2, 65535);
        Check.same("bootWould() of a broken new slot", 0, broken.bootWould());
        Check.same("bootOperations() of a broken new slot", 1, broken.bootOperations());
        broken.damageJournal(0, 0, 65535);
        Check.same("bootOperations() with a format", 2, broken.bootOperations());
        TwinBoot none = pending();
        none.damage(0, 0, 65535);
        none.damage(1, 0, 65535);
        Check.same("bootWould() without a whole slot", NONE, none.bootWould());
        TwinBoot move = pending();
        for (int i = 0; i < 9; i++) {
            move.mirror();
        }
        // the erasure, GOOD, NEW, HEAD and TRY
        Check.same("bootOperations() with a move", 5, move.bootOperations());
    }

    private static void safeUpdate() {
        TwinBoot boot = safe();
        Check.same("updateOperations(3)", 9, boot.updateOperations(3));
        for (int cut = 0; cut < 9; cut++) {
            Check.same("slotAfterCut(3, " + cut + ")", 0, boot.slotAfterCut(3, cut));
            Check.same("slotAfterTwoCuts(3, " + cut + ", 0)", 0, boot.slotAfterTwoCuts(3, cut, 0));
            Check.same("toldAfterCut(3, " + cut + ", 1)", 0, boot.toldAfterCut(3, cut, 1));
            Check.same("toldAfterCut(3, " + cut + ", 2)", NONE, boot.toldAfterCut(3, cut, 2));
        }
        Check.same("slotAfterCut(3, 9)", FULL, boot.slotAfterCut(3, 9));
        Check.same("slotAfterCut(3, 1000)", FULL, boot.slotAfterCut(3, 1000));
        Check.same("slotAfterTwoCuts(3, 9, 0)", FULL, boot.slotAfterTwoCuts(3, 9, 0));
        Check.same("toldAfterCut(3, 9, 0)", FULL - 100, boot.toldAfterCut(3, 9, 0));
        Check.same("firstUnsafeCut(3)", NONE, boot.firstUnsafeCut(3));
        Check.same("firstUnsafePair(3)", NONE, boot.firstUnsafePair(3));
        Check.same("cutsToNew(3)", 0, boot.cutsToNew(3));
        Check.same("longestOldRun(3)", 9, boot.longestOldRun(3));
    }

    private static void unsafeUpdate() {
        TwinBoot boot = unsafe();
        for (int cut = 0; cut < 8; cut++) {
            Check.same("slotAfterCut(3, " + cut + ") of unsafe", NONE, boot.slotAfterCut(3, cut));
            Check.same("slotAfterTwoCuts(3, " + cut + ", 5) of unsafe", NONE, boot.slotAfterTwoCuts(3, cut, 5));
        }
        Check.same("slotAfterCut(3, 8) of unsafe", 1, boot.slotAfterCut(3, 8));
        Check.same("slotAfterTwoCuts(3, 8, 0) of unsafe", 1, boot.slotAfterTwoCuts(3, 8, 0));
        Check.same("firstUnsafeCut(3) of unsafe", 0, boot.firstUnsafeCut(3));
        Check.same("firstUnsafePair(3) of unsafe", 0, boot.firstUnsafePair(3));
        Check.same("cutsToNew(3) of unsafe", 1, boot.cutsToNew(3));
        Check.same("longestOldRun(3) of unsafe", 0, boot.longestOldRun(3));
        Check.same("toldAfterCut(3, 0, 1) of unsafe", 0, boot.toldAfterCut(3, 0, 1));
    }

    /** A thrifty update would spare the worn page 1, and its image would be whole. */
    private static void unsafeUpdateOfWornPages() {
        TwinBoot boot = Check.device("flash 16 4 12;image 0 2 10 21;good 0;life 1");
        boot.boot();
        boot.mirror();
        boot.damage(0, 3, 65535);
        Check.stage(boot, 6, 17);
        Check.same("cutsToNew(4) of worn pages", 0, boot.cutsToNew(4));
        Check.same("slotAfterCut(4, 9) of worn pages", NONE, boot.slotAfterCut(4, 9));
        Check.same("thriftyPages() of worn pages", 1, boot.thriftyPages());
        boot.thriftyUpdate(4);
        Check.same("isWhole(1) of a thrifty update of worn pages", true, boot.isWhole(1));
    }

    private static void updateOfNewSlot() {
        TwinBoot boot = pending();
        // four erasures, one word, word 1, 2 and 0, and NEW
        Check.same("updateOperations(4) of pending", 9, boot.updateOperations(4));
        Check.same("slotAfterCut(4, 0) of pending", 0, boot.slotAfterCut(4, 0));
        Check.same("toldAfterCut(4, 0, 4) of pending", 2, boot.toldAfterCut(4, 0, 4));
        Check.same("slotAfterCut(4, 8) of pending", 1, boot.slotAfterCut(4, 8));
        Check.same("toldAfterCut(4, 8, 2) of pending", 1, boot.toldAfterCut(4, 8, 2));
        Check.same("toldAfterCut(4, 8, 3) of pending", 1, boot.toldAfterCut(4, 8, 3));
        Check.same("toldAfterCut(4, 8, 0) of pending", 0, boot.toldAfterCut(4, 8, 0));
        Check.same("cutsToNew(4) of pending", 1, boot.cutsToNew(4));
        Check.same("longestOldRun(4) of pending", 8, boot.longestOldRun(4));
        Check.same("slotAfterTwoCuts(4, 0, 0) of pending", 0, boot.slotAfterTwoCuts(4, 0, 0));
        Check.same("slotAfterTwoCuts(4, 8, 0) of pending", 1, boot.slotAfterTwoCuts(4, 8, 0));
        Check.same("slotAfterTwoCuts(4, 8, 1000) of pending", 1, boot.slotAfterTwoCuts(4, 8, 1000));
        TwinBoot tired = Check.device(ONE + ";tries 1");
        tired.boot();
        Check.stage(tired, 7);
        tired.update(3);
        Check.stage(tired, 8);
        // behind the cut one TRY is left: it is torn, so the second boot has it still
        Check.same("slotAfterTwoCuts(4, 8, 0) of tries 1", 1, tired.slotAfterTwoCuts(4, 8, 0));
        Check.same("toldAfterCut(4, 8, 3) of tries 1", 1, tired.toldAfterCut(4, 8, 3));
    }

    private static void updateWithFullJournal() {
        TwinBoot boot = full();
        // the move takes an erasure, GOOD and HEAD
        Check.same("updateOperations(3) of full", 9 + 3, boot.updateOperations(3));
        Check.same("longestOldRun(3) of full", 12, boot.longestOldRun(3));
        Check.same("toldAfterCut(3, 8, 1) of full", 0, boot.toldAfterCut(3, 8, 1));
        boot.damage(0, 3, 65535);
        Check.same("cutsToNew(3) of full and unsafe", 4, boot.cutsToNew(3));
        Check.same("firstUnsafeCut(3) of full and unsafe", 0, boot.firstUnsafeCut(3));
    }

    private static void allErrors(String what, TwinBoot boot, int version, int error) {
        Check.same("updateOperations: " + what, error, boot.updateOperations(version));
        Check.same("slotAfterCut: " + what, error, boot.slotAfterCut(version, 1000));
        Check.same("firstUnsafeCut: " + what, error - 100, boot.firstUnsafeCut(version));
        Check.same("cutsToNew: " + what, error, boot.cutsToNew(version));
        Check.same("longestOldRun: " + what, error, boot.longestOldRun(version));
        Check.same("updatesLeft: " + what, error - 100, boot.updatesLeft(version));
        Check.same("thriftyOperations: " + what, error, boot.thriftyOperations(version));
        Check.same("firstUnsafeThriftyCut: " + what, error - 100, boot.firstUnsafeThriftyCut(version));
        Check.same("slotAfterTwoCuts: " + what, error, boot.slotAfterTwoCuts(version, 1000, 0));
        Check.same("firstUnsafePair: " + what, error - 100, boot.firstUnsafePair(version));
        Check.same("toldAfterCut: " + what, error - 100, boot.toldAfterCut(version, 1000, 0));
    }

    private static void errors() {
        TwinBoot boot = Check.device(ONE + ";floor 2");
        Check.stage(boot, 7);
        allErrors("nothing runs", boot, 1, WRONG_STATE);
        boot.boot();
        allErrors("the version is below the floor", boot, 1, TOO_OLD);
        boot.clearStaged();
        allErrors("nothing is staged", boot, 1, WRONG_STATE);
        TwinBoot noGood = Check.device("flash 16 4 12;image 0 2 10");
        noGood.boot();
        Check.stage(noGood, 7);
        allErrors("the slot is not the good one", noGood, 255, WRONG_STATE);
    }

    private static void wrongArguments() {
        TwinBoot boot = new TwinBoot();
        for (int version : new int[] {-1, 0, 256}) {
            Check.badArgument("updateOperations", () -> boot.updateOperations(version));
            Check.badArgument("slotAfterCut", () -> boot.slotAfterCut(version, 0));
            Check.badArgument("firstUnsafeCut", () -> boot.firstUnsafeCut(version));
            Check.badArgument("cutsToNew", () -> boot.cutsToNew(version));
            Check.badArgument("longestOldRun", () -> boot.longestOldRun(version));
            Check.badArgument("updatesLeft", () -> boot.updatesLeft(version));
            Check.badArgument("thriftyOperations", () -> boot.thriftyOperations(version));
            Check.badArgument("firstUnsafeThriftyCut", () -> boot.firstUnsafeThriftyCut(version));
            Check.badArgument("slotAfterTwoCuts", () -> boot.slotAfterTwoCuts(version, 0, 0));
            Check.badArgument("firstUnsafePair", () -> boot.firstUnsafePair(version));
            Check.badArgument("toldAfterCut", () -> boot.toldAfterCut(version, 0, 0));
        }
        for (int cut : new int[] {-1, 1001}) {
            Check.badArgument("slotAfterCut, cut " + cut, () -> boot.slotAfterCut(1, cut));
            Check.badArgument("slotAfterTwoCuts, cut " + cut, () -> boot.slotAfterTwoCuts(1, cut, 0));
            Check.badArgument("slotAfterTwoCuts, bootCut " + cut, () -> boot.slotAfterTwoCuts(1, 0, cut));
            Check.badArgument("toldAfterCut, cut " + cut, () -> boot.toldAfterCut(1, cut, 0));
        }
        Check.badArgument("toldAfterCut, what -1", () -> boot.toldAfterCut(1, 0, -1));
        Check.badArgument("toldAfterCut, what 5", () -> boot.toldAfterCut(1, 0, 5));
    }

    private static void updatesLeft() {
        Check.same("updatesLeft(3) without LIFE", 60, safe().updatesLeft(3));
        for (int life = 1; life <= 3; life++) {
            TwinBoot boot = Check.device(ONE + ";life " + life);
            boot.boot();
            Check.stage(boot, 7);
            Check.same("updatesLeft(3) of life " + life, 2 * life, boot.updatesLeft(3));
            boot.mirror();
            // slot 1 is erased once more than slot 0 then
            Check.same("updatesLeft(3) of life " + life + " behind mirror()", 2 * life - 2, boot.updatesLeft(3));
            Check.stage(boot, 6, 8);
            Check.same("updatesLeft(4) of even words", 60, boot.updatesLeft(4));
        }
        TwinBoot odd = Check.device(ONE + ";life 3");
        odd.boot();
        Check.stage(odd, 6, 9);
        Check.same("updatesLeft(4) of an odd word in a page behind the first", 6, odd.updatesLeft(4));
        TwinBoot fifty = Check.device(ONE + ";life 29");
        fifty.boot();
        Check.stage(fifty, 7);
        Check.same("updatesLeft(3) of life 29", 58, fifty.updatesLeft(3));
        Check.same("updatesLeft(3) of life 29 again", 58, fifty.updatesLeft(3));
    }

    private static void thrifty() {
        TwinBoot boot = Check.device("flash 16 4 12;image 0 2 10;image 1 2 1 255 255 255 255 8;good 0");
        Check.stage(boot, 1, 15, 255, 240, 0, 7, 8);
        Check.same("thriftyPages() when off", 0, boot.thriftyPages());
        boot.boot();
        Check.same("thriftyPages()", 1 + 4, boot.thriftyPages());
        Check.same("thriftyOperations(3)", 2 + 6 + 3 + 1, boot.thriftyOperations(3));
        Check.same("updateOperations(3)", 4 + 7 + 3 + 1, boot.updateOperations(3));
        Check.same("firstUnsafeThriftyCut(3)", NONE, boot.firstUnsafeThriftyCut(3));
        boot.damage(0, 3, 65535);
        Check.same("firstUnsafeThriftyCut(3) of unsafe", 0, boot.firstUnsafeThriftyCut(3));
        boot.clearStaged();
        Check.same("thriftyPages() without staged words", 0, boot.thriftyPages());
        TwinBoot noGood = Check.device("flash 16 4 12;image 0 2 10;image 1 2 1 2 3 4 5 6 7 8");
        noGood.boot();
        Check.stage(noGood, 1, 2, 3, 5);
        Check.same("thriftyPages() of a slot that is not the good one", 1 + 2, noGood.thriftyPages());
    }

    private static void bootsToRollback() {
        Check.same("bootsToRollback() of a good slot", NONE, safe().bootsToRollback());
        Check.same("bootsToRollback() of a pending slot", 1, pending().bootsToRollback());
        Check.same("bootsToRollback() when off", 4, offAndPending().bootsToRollback());
        TwinBoot boot = pending();
        boot.boot();
        Check.same("bootsToRollback() behind a boot", 3, boot.bootsToRollback());
        boot.boot();
        Check.same("bootsToRollback() behind two boots", 2, boot.bootsToRollback());
        boot.damage(0, 0, 65535);
        Check.same("bootsToRollback() to nothing", NONE, boot.bootsToRollback());
        Check.same("bootsToRollback() of an empty device", NONE, new TwinBoot().bootsToRollback());
        TwinBoot single = Check.device(ONE + ";tries 1");
        single.boot();
        Check.stage(single, 1);
        single.update(3);
        single.off();
        Check.same("bootsToRollback() of tries 1 when off", 2, single.bootsToRollback());
    }

    private static void firstBootCut() {
        Check.same("firstBootCut() of a good slot", NONE, safe().firstBootCut());
        Check.same("firstBootCut() of a pending slot", NONE, pending().firstBootCut());
        Check.same("firstBootCut() of an empty device", NONE, new TwinBoot().firstBootCut());
        TwinBoot spoiled = safe();
        spoiled.damageJournal(0, 0, 65535);
        Check.same("firstBootCut() with a format", NONE, spoiled.firstBootCut());
    }

    private static void recordsLeft() {
        TwinBoot boot = safe();
        Check.same("recordsLeft()", 10, boot.recordsLeft());
        boot.mirror();
        Check.same("recordsLeft() behind a record", 9, boot.recordsLeft());
        Check.same("recordsLeft() of a full page", 0, full().recordsLeft());
        boot.damageJournal(0, 0, 65535);
        Check.same("recordsLeft() without an active page", 11, boot.recordsLeft());
    }

    private static String whole(TwinBoot boot) {
        StringBuilder all = new StringBuilder();
        for (int row = 0; row < 2; row++) {
            for (int i = 0; i < 16; i++) {
                all.append(boot.word(row, i)).append(' ').append(boot.journalWord(row, i)).append(' ');
            }
            for (int page = 0; page < 4; page++) {
                all.append(boot.wear(row, page)).append(' ');
            }
            all.append(boot.wear(2, row)).append(' ').append(boot.staged(row)).append(' ');
        }
        for (int event = 0; event < 8; event++) {
            all.append(boot.eventCount(event)).append(' ');
        }
        all.append(boot.power()).append(' ').append(boot.operations()).append(' ').append(boot.state()).append(' ');
        all.append(boot.running()).append(' ').append(boot.setting(4)).append(' ').append(boot.logSize());
        return all.toString();
    }

    private static void predictAll(TwinBoot boot) {
        boot.bootWould();
        boot.bootOperations();
        boot.updateOperations(4);
        boot.slotAfterCut(4, 3);
        boot.firstUnsafeCut(4);
        boot.cutsToNew(4);
        boot.longestOldRun(4);
        boot.updatesLeft(4);
        boot.thriftyOperations(4);
        boot.thriftyPages();
        boot.firstUnsafeThriftyCut(4);
        boot.slotAfterTwoCuts(4, 3, 0);
        boot.firstUnsafePair(4);
        boot.toldAfterCut(4, 3, 0);
        boot.bootsToRollback();
        boot.firstBootCut();
        boot.recordsLeft();
    }

    private static void predictionsChangeNothing() {
        Maker[] makers = {PredictionsTest::safe, PredictionsTest::unsafe, PredictionsTest::pending,
            PredictionsTest::full, PredictionsTest::worn, PredictionsTest::offAndPending};
        for (Maker maker : makers) {
            TwinBoot boot = maker.make();
            String before = whole(boot);
            predictAll(boot);
            Check.same("predictions change nothing", true, before.equals(whole(boot)));
        }
    }

    private static void predictionsHavePower() {
        TwinBoot boot = pending();
        boot.setPower(0);
        Check.same("bootWould() without power", 1, boot.bootWould());
        Check.same("bootOperations() without power", 1, boot.bootOperations());
        Check.same("updateOperations(4) without power", 9, boot.updateOperations(4));
        Check.same("thriftyOperations(4) without power", 6, boot.thriftyOperations(4));
        Check.same("slotAfterCut(4, 8) without power", 1, boot.slotAfterCut(4, 8));
        Check.same("updatesLeft(4) without power", 60, boot.updatesLeft(4));
        Check.same("bootsToRollback() without power", 1, boot.bootsToRollback());
        Check.same("firstBootCut() without power", NONE, boot.firstBootCut());
        Check.same("boot() without power", CUT, boot.boot());
    }

    // ---- what the device does is what was predicted

    private static int cutUpdate(TwinBoot boot, int version, int cut, boolean thrifty) {
        boot.setPower(cut);
        int answer = thrifty ? boot.thriftyUpdate(version) : boot.update(version);
        boot.setPower(NONE);
        return answer;
    }

    private static int bootTwice(TwinBoot boot, int bootCut) {
        boot.setPower(bootCut);
        int slot = boot.boot();
        boot.setPower(NONE);
        return slot == CUT ? boot.boot() : slot;
    }

    private static void predictionsComeTrue(String what, Maker maker) {
        for (int version = 2; version <= 5; version++) {
            cutsComeTrue(what, maker, version);
            updatesComeTrue(what, maker, version);
        }
        TwinBoot boot = maker.make();
        int would = boot.bootWould();
        int operations = boot.bootOperations();
        int rollback = boot.bootsToRollback();
        int before = boot.operations();
        int reference = boot.running();
        int slot = boot.boot();
        Check.same("bootWould() of " + what, slot, would);
        Check.same("bootOperations() of " + what, boot.operations() - before, operations);
        int boots = 1;
        reference = reference == NONE ? slot : reference;
        while (slot == reference && boots <= 10) {
            slot = boot.boot();
            boots++;
        }
        Check.same("bootsToRollback() of " + what, slot == NONE || boots > 10 ? NONE : boots, rollback);
    }

    private static void cutsComeTrue(String what, Maker maker, int version) {
        TwinBoot oracle = maker.make();
        int old = oracle.running();
        int done = oracle.updateOperations(version);
        Check.same("updateOperations of " + what, maker.make().update(version), done);
        int thrifty = oracle.thriftyOperations(version);
        Check.same("thriftyOperations of " + what, maker.make().thriftyUpdate(version), thrifty);
        int unsafe = NONE;
        int unsafePair = NONE;
        int toNew = 0;
        int run = 0;
        int longest = 0;
        for (int cut = 0; cut < done; cut++) {
            TwinBoot boot = maker.make();
            Check.same("a cut update of " + what, CUT, cutUpdate(boot, version, cut, false));
            int slot = boot.boot();
            Check.same("slotAfterCut of " + what, slot, oracle.slotAfterCut(version, cut));
            for (int k = 0; k < 5; k++) {
                Check.same("toldAfterCut of " + what, boot.told(k), maker.make().toldAfterCut(version, cut, k));
            }
            unsafe = unsafe == NONE && slot == NONE ? cut : unsafe;
            toNew += slot == 1 - old ? 1 : 0;
            run = slot == old ? run + 1 : 0;
            longest = Math.max(longest, run);
            for (int bootCut = 0; bootCut < 12; bootCut++) {
                TwinBoot twice = maker.make();
                cutUpdate(twice, version, cut, false);
                int last = bootTwice(twice, bootCut);
                Check.same("slotAfterTwoCuts of " + what, last, maker.make().slotAfterTwoCuts(version, cut, bootCut));
                unsafePair = unsafePair == NONE && last == NONE ? 100 * cut + bootCut : unsafePair;
            }
        }
        int unsafeThrifty = NONE;
        for (int cut = thrifty - 1; cut >= 0; cut--) {
            TwinBoot boot = maker.make();
            cutUpdate(boot, version, cut, true);
            unsafeThrifty = boot.boot() == NONE ? cut : unsafeThrifty;
        }
        boolean refused = done < 0;
        Check.same("slotAfterCut of " + what, refused ? done : FULL, oracle.slotAfterCut(version, Math.max(0, done)));
        Check.same("firstUnsafeCut of " + what, refused ? done - 100 : unsafe, oracle.firstUnsafeCut(version));
        Check.same("firstUnsafePair of " + what, refused ? done - 100 : unsafePair, oracle.firstUnsafePair(version));
        Check.same("cutsToNew of " + what, refused ? done : toNew, oracle.cutsToNew(version));
        Check.same("longestOldRun of " + what, refused ? done : longest, oracle.longestOldRun(version));
        Check.same("firstUnsafeThriftyCut of " + what, refused ? done - 100 : unsafeThrifty,
                oracle.firstUnsafeThriftyCut(version));
    }

    private static void updatesComeTrue(String what, Maker maker, int version) {
        int predicted = maker.make().updatesLeft(version);
        TwinBoot boot = maker.make();
        int[] words = new int[boot.setting(4)];
        for (int k = 0; k < words.length; k++) {
            words[k] = boot.staged(k);
        }
        int updates = 0;
        while (updates < 60) {
            int slot = 1 - boot.running();
            int answer = boot.update(version);
            if (answer < 0) {
                updates = answer - 100;
                break;
            }
            if (boot.boot() != slot) {
                break;
            }
            boot.confirm();
            Check.stage(boot, words);
            updates++;
        }
        Check.same("updatesLeft of " + what, updates, predicted);
    }
}
