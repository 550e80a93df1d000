import java.util.function.LongSupplier;

/** Promises 43 to 59: a test of its own for each sentence that names a boundary case. */
public final class EdgesOfPredictionsTest {
    private static final int NONE = TwinBoot.NONE;
    private static final int FULL = TwinBoot.FULL;
    private static final int WRONG_STATE = TwinBoot.WRONG_STATE;
    private static final int TOO_OLD = TwinBoot.TOO_OLD;
    private static final String PLAIN = Devices.PLAIN;
    private static final String ONE = Devices.ONE;
    private static final int[] FAR = {Integer.MIN_VALUE, Integer.MAX_VALUE};

    private interface Prediction {
        int of(TwinBoot boot, int version);
    }

    /** The predictions of an update, and by what their errors are less than those of the update. */
    private static final String[] NAMES = {"updateOperations", "thriftyOperations", "slotAfterCut", "cutsToNew",
        "longestOldRun", "slotAfterTwoCuts", "firstUnsafeCut", "updatesLeft", "firstUnsafeThriftyCut",
        "firstUnsafePair", "toldAfterCut"};
    private static final Prediction[] PREDICTIONS = {TwinBoot::updateOperations, TwinBoot::thriftyOperations,
        (boot, version) -> boot.slotAfterCut(version, 1000), TwinBoot::cutsToNew, TwinBoot::longestOldRun,
        (boot, version) -> boot.slotAfterTwoCuts(version, 1000, 0), TwinBoot::firstUnsafeCut, TwinBoot::updatesLeft,
        TwinBoot::firstUnsafeThriftyCut, TwinBoot::firstUnsafePair,
        (boot, version) -> boot.toldAfterCut(version, 1000, 0)};
    private static final int[] LESS = {0, 0, 0, 0, 0, 0, 100, 100, 100, 100, 100};

    public static void main(String[] args) {
        for (int k = 0; k < NAMES.length; k++) {
            errorsOf(NAMES[k], PREDICTIONS[k], LESS[k]);
        }
        changeNothing();
        haveUnlimitedPower();
        boots();
        operations();
        cuts();
        counts();
        updatesLeft();
        thriftyUpdates();
        twoCuts();
        statesAfterCuts();
        rollbacks();
        bootCuts();
        recordsLeft();
        Check.end();
    }

    /** Slot 0 runs and is the good one, 7 is staged: an update takes 4 + 1 + 3 + 1 operations. */
    private static TwinBoot safe() {
        return Devices.running(ONE, 7);
    }

    /** The slot that runs cannot be booted again. */
    private static TwinBoot unsafe() {
        TwinBoot boot = safe();
        boot.damage(0, 3, 65535);
        return boot;
    }

    /** Slot 1 is new, slot 0 runs, and 8 is staged. */
    private static TwinBoot pending() {
        TwinBoot boot = Devices.pending(ONE, 3);
        boot.stage(8);
        return boot;
    }

    // ---- what all of them share

    private static void errorsOf(String name, Prediction prediction, int less) {
        Check.edge(name + ": throws IllegalArgumentException if version is out of range", () -> {
            for (TwinBoot boot : new TwinBoot[] {safe(), new TwinBoot()}) {
                for (int version : new int[] {-1, 0, 256, FAR[0], FAR[1]}) {
                    Check.badArgument(name + "(" + version + ")", () -> prediction.of(boot, version));
                }
            }
        });
        Check.edge(name + ": version is 1 to 255", () -> {
            for (int version : new int[] {1, 255}) {
                int answer = prediction.of(safe(), version);
                boolean error = answer == WRONG_STATE - less || answer == TOO_OLD - less;
                Check.same(name + "(" + version + ") is an error", false, error);
            }
        });
        Check.edge(name + ": the error of an update: WRONG_STATE", () -> {
            TwinBoot off = Check.device(ONE);
            off.stage(7);
            Check.same(name + " when off", WRONG_STATE - less, prediction.of(off, 3));
            TwinBoot waiting = Devices.waiting(PLAIN + ";good 0", 7);
            Check.same(name + " when waiting", WRONG_STATE - less, prediction.of(waiting, 3));
            TwinBoot other = Devices.running(PLAIN + ";image 0 2 1;good 1", 7);
            Check.same(name + " of a slot that is not the good one", WRONG_STATE - less, prediction.of(other, 3));
            Check.same(name + " without staged words", WRONG_STATE - less, prediction.of(Devices.running(ONE), 3));
        });
        Check.edge(name + ": the error of an update: TOO_OLD", () -> {
            TwinBoot boot = Devices.running(ONE + ";floor 2", 7);
            Check.same(name + " below the floor", TOO_OLD - less, prediction.of(boot, 1));
            int answer = prediction.of(boot, 2);
            Check.same(name + " at the floor is an error", false, answer == TOO_OLD - less);
        });
        Check.edge("6: of several errors the one that is named first is returned: " + name, () -> {
            TwinBoot boot = Devices.running(ONE + ";floor 2");
            Check.same(name + " below the floor without staged words", WRONG_STATE - less, prediction.of(boot, 1));
        });
    }

    private static LongSupplier[] all(TwinBoot boot) {
        return new LongSupplier[] {() -> boot.bootWould(), () -> boot.bootOperations(),
            () -> boot.updateOperations(4), () -> boot.slotAfterCut(4, 3), () -> boot.firstUnsafeCut(4),
            () -> boot.cutsToNew(4), () -> boot.longestOldRun(4), () -> boot.updatesLeft(4),
            () -> boot.thriftyOperations(4), () -> boot.thriftyPages(), () -> boot.firstUnsafeThriftyCut(4),
            () -> boot.slotAfterTwoCuts(4, 8, 0), () -> boot.firstUnsafePair(4), () -> boot.toldAfterCut(4, 8, 2),
            () -> boot.bootsToRollback(), () -> boot.firstBootCut(), () -> boot.recordsLeft()};
    }

    private static TwinBoot broken(TwinBoot boot) {
        boot.damageJournal(0, 0, 65535);
        return boot;
    }

    private static void changeNothing() {
        Check.edge("6: predictions change nothing", () -> {
            int count = all(new TwinBoot()).length;
            for (int k = 0; k < count; k++) {
                for (TwinBoot boot : new TwinBoot[] {safe(), unsafe(), pending(), new TwinBoot(), broken(safe())}) {
                    String before = Devices.everything(boot);
                    long answer = all(boot)[k].getAsLong();
                    Check.same("the device behind prediction " + k, before, Devices.everything(boot));
                    Check.same("prediction " + k + " again", answer, all(boot)[k].getAsLong());
                }
            }
        });
        Check.edge("6: predictions change nothing in the snapshots", () -> {
            TwinBoot boot = pending();
            boot.saveSnapshot(0);
            String before = Devices.everything(boot);
            for (LongSupplier prediction : all(boot)) {
                prediction.getAsLong();
            }
            boot.restoreSnapshot(0);
            Check.same("the device that is restored", before, Devices.everything(boot));
            Check.same("restoreSnapshot(1)", NONE, boot.restoreSnapshot(1));
        });
    }

    private static void haveUnlimitedPower() {
        Check.edge("6: they are made as if the device had power without limit, unless a cut is told", () -> {
            TwinBoot limited = pending();
            TwinBoot free = pending();
            for (int power : new int[] {0, 1, 5, 9}) {
                limited.setPower(power);
                for (int k = 0; k < all(free).length; k++) {
                    long due = all(free)[k].getAsLong();
                    Check.same("prediction " + k + " with power " + power, due, all(limited)[k].getAsLong());
                }
                Check.same("power()", power, limited.power());
            }
        });
    }

    // ---- promises 43 to 45

    private static void boots() {
        Check.edge("Promise 43: NONE if the device would wait for recovery", () -> {
            Check.same("bootWould() of an empty device", NONE, new TwinBoot().bootWould());
            Check.same("bootWould() below the floor", NONE, Check.device(ONE + ";floor 3").bootWould());
            Check.same("bootWould() at the floor", 0, Check.device(ONE + ";floor 2").bootWould());
        });
        Check.edge("Promise 43: what boot() would return when a slot runs, or it waits", () -> {
            Check.same("bootWould() when slot 0 runs and slot 1 is new", 1, pending().bootWould());
            Check.same("bootWould() when the slot that runs is broken", NONE, unsafe().bootWould());
            Check.same("bootWould() when it waits", NONE, Devices.waiting(PLAIN).bootWould());
        });
        Check.edge("Promise 44: the number of operations, which may be 0", () -> {
            Check.same("bootOperations() of a good slot", 0, safe().bootOperations());
            Check.same("bootOperations() of an empty device", 0, new TwinBoot().bootOperations());
            Check.same("bootOperations() with TRY", 1, pending().bootOperations());
        });
        Check.edge("Promise 44: with BAD, with a format, with a move", () -> {
            TwinBoot bad = pending();
            bad.damage(1, 0, 65535);
            Check.same("bootOperations() with BAD", 1, bad.bootOperations());
            Check.same("bootOperations() with a format", 2, broken(safe()).bootOperations());
            TwinBoot move = pending();
            Devices.fillUpTo(move, 0);
            // the erasure, GOOD, NEW, HEAD and TRY
            Check.same("bootOperations() with a move", 5, move.bootOperations());
        });
    }

    private static void operations() {
        Check.edge("Promise 45: the number of operations of update(int)", () -> {
            TwinBoot boot = safe();
            Check.same("updateOperations(3)", 9, boot.updateOperations(3));
            Check.stage(boot, 65535);
            Check.same("updateOperations(3) of a word that need not be written", 8, boot.updateOperations(3));
            Devices.fillUpTo(boot, 0);
            Check.same("updateOperations(3) with a move", 8 + 3, boot.updateOperations(3));
        });
    }

    // ---- promises 46 to 49

    private static void badCuts(String name, Prediction prediction) {
        Check.edge(name + ": throws IllegalArgumentException if it is out of range", () -> {
            for (TwinBoot boot : new TwinBoot[] {safe(), new TwinBoot()}) {
                for (int cut : new int[] {-1, 1001, FAR[0], FAR[1]}) {
                    Check.badArgument(name + " " + cut, () -> prediction.of(boot, cut));
                }
            }
        });
        Check.edge(name + ": 0 to 1000", () -> {
            for (int cut : new int[] {0, 1000}) {
                int answer = prediction.of(safe(), cut);
                Check.same(name + " " + cut + " is taken", true, answer >= FULL - 100);
            }
        });
    }

    private static void cuts() {
        badCuts("Promise 46: cut", (boot, cut) -> boot.slotAfterCut(3, cut));
        Check.edge("Promise 46: FULL if the update takes no more operations than cut", () -> {
            TwinBoot boot = safe();
            Check.same("slotAfterCut(3, 8)", 0, boot.slotAfterCut(3, 8));
            Check.same("slotAfterCut(3, 9)", FULL, boot.slotAfterCut(3, 9));
            Check.same("slotAfterCut(3, 10)", FULL, boot.slotAfterCut(3, 10));
            Check.same("slotAfterCut(3, 1000)", FULL, boot.slotAfterCut(3, 1000));
        });
        Check.edge("Promise 46: NONE if the device waits for recovery", () -> {
            TwinBoot boot = unsafe();
            Check.same("slotAfterCut(3, 0)", NONE, boot.slotAfterCut(3, 0));
            Check.same("slotAfterCut(3, 7) with a torn word 0", NONE, boot.slotAfterCut(3, 7));
            Check.same("slotAfterCut(3, 8) with a torn NEW", 1, boot.slotAfterCut(3, 8));
        });
        Check.edge("Promise 46: after some operations, the next one being torn", () -> {
            TwinBoot boot = Devices.running(PLAIN + ";image 0 2 10;image 1 3 30;good 0", 7);
            boot.damage(0, 3, 65535);
            Check.same("slotAfterCut(3, 0) of a torn erasure", NONE, boot.slotAfterCut(3, 0));
            Check.same("word(1, 0)", 3, boot.word(1, 0));
            Check.same("bootWould()", 1, boot.bootWould());
        });
        Check.edge("Promise 47: the smallest cut; NONE if there is none", () -> {
            Check.same("firstUnsafeCut(3) of safe", NONE, safe().firstUnsafeCut(3));
            Check.same("firstUnsafeCut(3) of unsafe", 0, unsafe().firstUnsafeCut(3));
            Check.same("firstUnsafeCut(4) of pending", NONE, pending().firstUnsafeCut(4));
        });
    }

    private static void counts() {
        Check.edge("Promise 48: the number of cuts, which may be 0", () -> {
            Check.same("cutsToNew(3) of safe", 0, safe().cutsToNew(3));
            Check.same("cutsToNew(3) of unsafe", 1, unsafe().cutsToNew(3));
            Check.same("cutsToNew(4) of pending", 1, pending().cutsToNew(4));
        });
        Check.edge("Promise 48: the cuts of update(int), not of thriftyUpdate(int)", () -> {
            TwinBoot boot = spared();
            boot.damage(0, 3, 65535);
            Check.same("cutsToNew(4)", 0, boot.cutsToNew(4));
            Check.same("slotAfterCut(4, 9)", NONE, boot.slotAfterCut(4, 9));
            Check.same("slotAfterTwoCuts(4, 9, 0)", NONE, boot.slotAfterTwoCuts(4, 9, 0));
            boot.thriftyUpdate(4);
            Check.same("isWhole(1) behind thriftyUpdate(4)", true, boot.isWhole(1));
        });
        Check.edge("Promise 48: each cut of a move behind a whole image counts", () -> {
            TwinBoot boot = pending();
            Devices.fillUpTo(boot, 0);
            // the erasure, GOOD, NEW, HEAD and the new NEW
            Check.same("cutsToNew(4)", 5, boot.cutsToNew(4));
            Check.same("longestOldRun(4)", 8, boot.longestOldRun(4));
        });
        Check.edge("Promise 49: the longest run of successive cuts, which may be 0 or all", () -> {
            Check.same("longestOldRun(3) of safe", 9, safe().longestOldRun(3));
            Check.same("longestOldRun(3) of unsafe", 0, unsafe().longestOldRun(3));
            Check.same("longestOldRun(4) of pending", 8, pending().longestOldRun(4));
        });
        Check.edge("Promise 49: the slot that runs now is slot 1", () -> {
            TwinBoot boot = Devices.running(PLAIN + ";image 1 2 10;good 1", 7);
            Check.same("longestOldRun(3)", 9, boot.longestOldRun(3));
            Check.same("cutsToNew(3)", 0, boot.cutsToNew(3));
            boot.damage(1, 3, 65535);
            Check.same("cutsToNew(3) of a broken slot 1", 1, boot.cutsToNew(3));
            Check.same("longestOldRun(3) of a broken slot 1", 0, boot.longestOldRun(3));
        });
    }

    // ---- promise 50

    /** The word 17 loses its bit 0 if page 1 of slot 1 is erased, which a thrifty update would not do. */
    private static TwinBoot spared() {
        TwinBoot boot = Devices.running(PLAIN + ";image 0 2 10 21;good 0;life 1", 6, 17);
        boot.mirror();
        Check.same("thriftyPages()", 1, boot.thriftyPages());
        return boot;
    }

    private static TwinBoot worn(int life, int mirrors) {
        TwinBoot boot = Devices.running(ONE + ";life " + life, 7);
        for (int i = 0; i < mirrors; i++) {
            boot.mirror();
        }
        return boot;
    }

    private static void updatesLeft() {
        Check.edge("Promise 50: 0 to 60 (after 60 it is not tried any more)", () -> {
            Check.same("updatesLeft(3) without LIFE", 60, safe().updatesLeft(3));
            Check.same("updatesLeft(3) of 30 erasures each", 60, worn(30, 0).updatesLeft(3));
            Check.same("updatesLeft(3) of 31 erasures each", 60, worn(31, 0).updatesLeft(3));
            Check.same("updatesLeft(3) of 29 erasures each", 58, worn(29, 0).updatesLeft(3));
        });
        Check.edge("Promise 50: 59 updates", () -> {
            TwinBoot boot = Devices.running(PLAIN + ";image 1 2 10 20;good 1;life 31", 7);
            boot.mirror();
            boot.update(3);
            boot.boot();
            boot.confirm();
            boot.stage(7);
            Check.same("wear(0, 0)", 2, boot.wear(0, 0));
            Check.same("running()", 0, boot.running());
            Check.same("updatesLeft(3)", 59, boot.updatesLeft(3));
        });
        Check.edge("Promise 50: 0: the first boot does not run the slot that was updated", () -> {
            Check.same("updatesLeft(3) of a slot that is worn out", 0, worn(1, 1).updatesLeft(3));
            Check.same("updatesLeft(3) of a slot that is nearly worn out", 2, worn(2, 1).updatesLeft(3));
            Check.same("updatesLeft(3) of LIFE 1", 2, worn(1, 0).updatesLeft(3));
        });
        Check.edge("Promise 50: with the present staged words and the same version", () -> {
            TwinBoot boot = worn(1, 1);
            Check.stage(boot, 6, 8);
            Check.same("updatesLeft(4) of even words", 60, boot.updatesLeft(4));
            // the version 3 becomes 2 in slot 1, where the checksum loses its bit 0, too; it is too old behind slot 0
            Check.same("updatesLeft(3) of an odd version", 2, boot.updatesLeft(3));
        });
        Check.edge("Promise 50: each by update(int) (which erases all pages)", () -> {
            Check.same("updatesLeft(4)", 0, spared().updatesLeft(4));
        });
        Check.edge("Promise 50: a boot and a confirmation (the floor becomes the version, which is no error)", () -> {
            TwinBoot boot = Devices.running(ONE + ";floor 2", 7);
            Check.same("updatesLeft(2)", 60, boot.updatesLeft(2));
            Check.same("updatesLeft(255)", 60, boot.updatesLeft(255));
            Check.same("updatesLeft(1)", TOO_OLD - 100, boot.updatesLeft(1));
        });
    }

    // ---- promises 51 to 53

    private static void thriftyUpdates() {
        Check.edge("Promise 51: the number of operations of thriftyUpdate(int)", () -> {
            TwinBoot boot = safe();
            Check.same("thriftyOperations(3)", 1 + 1 + 3 + 1, boot.thriftyOperations(3));
            boot.damage(1, 3, 65535);
            Check.same("thriftyOperations(3) with a spoiled page 0", 6, boot.thriftyOperations(3));
            Check.stage(boot, 7, 65535, 8);
            boot.damage(1, 4, 1);
            Check.same("thriftyOperations(3) with a spoiled page 1", 2 + 2 + 3 + 1, boot.thriftyOperations(3));
        });
        Check.edge("Promise 52: 0 if nothing runs", () -> {
            TwinBoot off = Check.device(ONE);
            off.stage(7);
            Check.same("thriftyPages() when off", 0, off.thriftyPages());
            Check.same("thriftyPages() when waiting", 0, Devices.waiting(PLAIN, 7).thriftyPages());
        });
        Check.edge("Promise 52: 0 if no words are staged", () -> {
            Check.same("thriftyPages()", 0, Devices.running(ONE).thriftyPages());
        });
        Check.edge("Promise 52: the sum of 2^k over these pages k, in the slot that does not run", () -> {
            TwinBoot boot = Devices.running("flash 64 4 12;image 0 2 10;good 0");
            for (int k = 0; k < 61; k++) {
                boot.stage(1);
                boot.damage(1, 3 + k, 65535);
            }
            Check.same("thriftyPages() of all pages", 65535, boot.thriftyPages());
            boot.clearStaged();
            boot.stage(1);
            Check.same("thriftyPages() of page 0", 1, boot.thriftyPages());
            boot.stage(0);
            Check.same("thriftyPages() with a word 0", 1, boot.thriftyPages());
            boot.stage(32768);
            Check.same("thriftyPages() with page 1", 3, boot.thriftyPages());
            TwinBoot other = Devices.running(PLAIN + ";image 0 1 7 8;image 1 2 10 20;good 1", 1, 8);
            Check.same("thriftyPages() when slot 1 runs", 1, other.thriftyPages());
            Check.stage(other, 1, 20);
            Check.same("thriftyPages() with page 1 when slot 1 runs", 3, other.thriftyPages());
        });
        Check.edge("Promise 53: as for firstUnsafeCut(int): the smallest cut; NONE if there is none", () -> {
            Check.same("firstUnsafeThriftyCut(3) of safe", NONE, safe().firstUnsafeThriftyCut(3));
            Check.same("firstUnsafeThriftyCut(3) of unsafe", 0, unsafe().firstUnsafeThriftyCut(3));
            Check.same("firstUnsafeThriftyCut(4) of pending", NONE, pending().firstUnsafeThriftyCut(4));
        });
    }

    // ---- promises 54 to 56

    private static void twoCuts() {
        badCuts("Promise 54: cut", (boot, cut) -> boot.slotAfterTwoCuts(3, cut, 0));
        badCuts("Promise 54: bootCut", (boot, cut) -> boot.slotAfterTwoCuts(3, 0, cut));
        Check.edge("6: exceptions come before errors: Promise 54", () -> {
            Check.badArgument("slotAfterTwoCuts(0, 9, 0)", () -> safe().slotAfterTwoCuts(0, 9, 0));
            Check.badArgument("slotAfterTwoCuts(3, 9, 1001)", () -> safe().slotAfterTwoCuts(3, 9, 1001));
            Check.badArgument("slotAfterTwoCuts(3, 9, -1)", () -> safe().slotAfterTwoCuts(3, 9, -1));
        });
        Check.edge("Promise 54: FULL if the update takes no more operations than cut", () -> {
            Check.same("slotAfterTwoCuts(3, 8, 0)", 0, safe().slotAfterTwoCuts(3, 8, 0));
            Check.same("slotAfterTwoCuts(3, 9, 0)", FULL, safe().slotAfterTwoCuts(3, 9, 0));
            Check.same("slotAfterTwoCuts(3, 1000, 1000)", FULL, safe().slotAfterTwoCuts(3, 1000, 1000));
        });
        Check.edge("Promise 54: if the first boot takes no more operations than that, it is not cut", () -> {
            // one TRY is left behind the cut: it is not spent twice, whether it is torn or done
            TwinBoot boot = Devices.pending(ONE + ";tries 1", 3);
            boot.stage(8);
            for (int bootCut : new int[] {0, 1, 2, 1000}) {
                Check.same("slotAfterTwoCuts(4, 8, " + bootCut + ")", 1, boot.slotAfterTwoCuts(4, 8, bootCut));
            }
        });
        Check.edge("Promise 54: what the first boot runs is the result, also if it takes no operation", () -> {
            Check.same("slotAfterTwoCuts(3, 0, 0)", 0, safe().slotAfterTwoCuts(3, 0, 0));
            Check.same("slotAfterTwoCuts(3, 8, 0) of unsafe", 1, unsafe().slotAfterTwoCuts(3, 8, 0));
        });
        Check.edge("Promise 54: NONE if the device waits for recovery", () -> {
            Check.same("slotAfterTwoCuts(3, 0, 0)", NONE, unsafe().slotAfterTwoCuts(3, 0, 0));
            Check.same("slotAfterTwoCuts(3, 7, 1000)", NONE, unsafe().slotAfterTwoCuts(3, 7, 1000));
        });
        Check.edge("Promise 55: 100 * cut + bootCut; NONE if there are none", () -> {
            Check.same("firstUnsafePair(3) of safe", NONE, safe().firstUnsafePair(3));
            Check.same("firstUnsafePair(3) of unsafe", 0, unsafe().firstUnsafePair(3));
            Check.same("firstUnsafePair(4) of pending", NONE, pending().firstUnsafePair(4));
        });
    }

    private static void statesAfterCuts() {
        badCuts("Promise 56: cut", (boot, cut) -> boot.toldAfterCut(3, cut, 0));
        Check.edge("Promise 56: throws IllegalArgumentException if what is out of range", () -> {
            for (TwinBoot boot : new TwinBoot[] {safe(), new TwinBoot()}) {
                for (int what : new int[] {-1, 5, FAR[0], FAR[1]}) {
                    Check.badArgument("toldAfterCut(3, 0, " + what + ")", () -> boot.toldAfterCut(3, 0, what));
                    Check.badArgument("toldAfterCut(3, 9, " + what + ")", () -> boot.toldAfterCut(3, 9, what));
                }
            }
        });
        Check.edge("Promise 56: FULL - 100 if the update takes no more operations than cut", () -> {
            Check.same("toldAfterCut(3, 8, 0)", 0, safe().toldAfterCut(3, 8, 0));
            Check.same("toldAfterCut(3, 9, 0)", FULL - 100, safe().toldAfterCut(3, 9, 0));
            Check.same("toldAfterCut(3, 1000, 4)", FULL - 100, safe().toldAfterCut(3, 1000, 4));
        });
        Check.edge("Promise 56: the state after a cut and the boot behind it (NONE is no error)", () -> {
            int[] before = {0, 0, NONE, 0, 2};
            int[] behind = {0, 0, 1, 1, 0};
            for (int what = 0; what <= 4; what++) {
                Check.same("toldAfterCut(4, 7, " + what + ")", before[what], pending().toldAfterCut(4, 7, what));
                Check.same("toldAfterCut(4, 8, " + what + ")", behind[what], pending().toldAfterCut(4, 8, what));
            }
        });
        Check.edge("Promise 56: the device waits for recovery, and still tells a state", () -> {
            TwinBoot boot = unsafe();
            Check.same("toldAfterCut(3, 0, 1)", 0, boot.toldAfterCut(3, 0, 1));
            Check.same("toldAfterCut(3, 0, 2)", NONE, boot.toldAfterCut(3, 0, 2));
        });
    }

    // ---- promises 57 to 59

    private static void rollbacks() {
        Check.edge("Promise 57: after how many boots another slot runs than now: 1", () -> {
            Check.same("bootsToRollback() of pending", 1, pending().bootsToRollback());
            TwinBoot broken = Devices.running(PLAIN + ";image 0 2 1;image 1 2 1;good 0");
            broken.damage(0, 3, 65535);
            Check.same("bootsToRollback() of a broken slot", 1, broken.bootsToRollback());
        });
        Check.edge("Promise 57: after as many boots as tries are left, and one more", () -> {
            for (int tries = 1; tries <= 3; tries++) {
                for (int done = 1; done <= tries; done++) {
                    TwinBoot boot = Devices.pending(ONE + ";tries " + tries, 3);
                    for (int k = 0; k < done; k++) {
                        boot.boot();
                    }
                    String what = "bootsToRollback() behind " + done + " of " + tries;
                    Check.same(what, tries - done + 1, boot.bootsToRollback());
                }
            }
        });
        Check.edge("Promise 57: if nothing runs, the first boot counts, too, so that the answer is 2 at least", () -> {
            for (int tries = 1; tries <= 3; tries++) {
                TwinBoot boot = Devices.pending(ONE + ";tries " + tries, 3);
                boot.off();
                Check.same("bootsToRollback() of " + tries + " tries when off", tries + 1, boot.bootsToRollback());
            }
            TwinBoot waiting = Devices.waiting(PLAIN + ";image 0 2 1;floor 3");
            Check.same("bootsToRollback() when waiting", NONE, waiting.bootsToRollback());
        });
        Check.edge("Promise 57: NONE if it is never", () -> {
            Check.same("bootsToRollback() of a good slot", NONE, safe().bootsToRollback());
            Check.same("bootsToRollback() of a good slot when off", NONE, Check.device(ONE).bootsToRollback());
        });
        Check.edge("Promise 57: NONE if by one of these boots nothing runs", () -> {
            Check.same("bootsToRollback() when the first boot runs nothing", NONE, unsafe().bootsToRollback());
            TwinBoot later = pending();
            later.boot();
            later.damage(0, 3, 65535);
            Check.same("bootsToRollback() when a later boot runs nothing", NONE, later.bootsToRollback());
            Check.same("bootsToRollback() of an empty device", NONE, new TwinBoot().bootsToRollback());
        });
        Check.edge("Promise 57: a broken slot runs again no more, the other one is bad", () -> {
            TwinBoot boot = pending();
            boot.boot();
            boot.damage(1, 3, 65535);
            Check.same("bootsToRollback() of a new slot that is broken", 1, boot.bootsToRollback());
        });
    }

    private static void bootCuts() {
        Check.edge("Promise 58: NONE if there is none (the boot takes no operation)", () -> {
            Check.same("firstBootCut() of safe", NONE, safe().firstBootCut());
            Check.same("firstBootCut() of an empty device", NONE, new TwinBoot().firstBootCut());
        });
        Check.edge("Promise 58: NONE if there is none (each cut leaves what the boot would run)", () -> {
            Check.same("firstBootCut() of pending", NONE, pending().firstBootCut());
            Check.same("firstBootCut() with a format", NONE, broken(safe()).firstBootCut());
            TwinBoot move = pending();
            Devices.fillUpTo(move, 0);
            Check.same("firstBootCut() with a move", NONE, move.firstBootCut());
            TwinBoot last = Devices.pending(ONE + ";tries 1", 3);
            Check.same("firstBootCut() of the only try", NONE, last.firstBootCut());
            last.boot();
            Check.same("firstBootCut() behind the only try", NONE, last.firstBootCut());
        });
        Check.edge("Promise 58: bootWould() is none, and no cut lets a slot run", () -> {
            TwinBoot boot = unsafe();
            Check.same("firstBootCut() of unsafe", NONE, boot.firstBootCut());
            Check.same("firstBootCut() of unsafe with a format", NONE, broken(boot).firstBootCut());
        });
    }

    private static void recordsLeft() {
        Check.edge("Promise 59: the number of free words", () -> {
            TwinBoot boot = Check.device(PLAIN);
            Check.same("recordsLeft() of HEAD alone", 11, boot.recordsLeft());
            Devices.fillUpTo(boot, 1);
            Check.same("recordsLeft() of one", 1, boot.recordsLeft());
            Devices.fillUpTo(boot, 0);
            Check.same("recordsLeft() of none", 0, boot.recordsLeft());
            Check.same("recordsLeft() of the longest page", 31, Check.device("flash 8 4 32").recordsLeft());
        });
        Check.edge("Promise 59: JOURNAL - 1 if there is no active page", () -> {
            TwinBoot boot = Check.device(ONE);
            Devices.fillUpTo(boot, 3);
            Check.same("recordsLeft()", 11, broken(boot).recordsLeft());
            Check.same("recordsLeft() of the longest page", 31, broken(Check.device("flash 8 4 32")).recordsLeft());
        });
    }
}
