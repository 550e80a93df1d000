/** Section 4 and promises 9 to 20: a test of its own for each sentence that names a boundary case. */
public final class EdgesOfRunningTest {
    private static final int NONE = TwinBoot.NONE;
    private static final int WRONG_STATE = TwinBoot.WRONG_STATE;
    private static final int CUT = TwinBoot.CUT;
    private static final int TOO_OLD = TwinBoot.TOO_OLD;
    private static final String PLAIN = Devices.PLAIN;
    private static final String ONE = Devices.ONE;
    private static final String BOTH = Devices.BOTH;
    private static final int[] FAR = {Integer.MIN_VALUE, Integer.MAX_VALUE};

    private interface Update {
        int of(TwinBoot boot, int version);
    }

    public static void main(String[] args) {
        bootsWithNew();
        bootsWithoutNew();
        promisesOfPower();
        promisesOfBoots();
        for (boolean thrifty : new boolean[] {false, true}) {
            Update update = thrifty ? TwinBoot::thriftyUpdate : TwinBoot::update;
            refusedUpdates(thrifty ? "Promise 16: " : "Promise 15: ", update);
            bothUpdates(thrifty ? "Promise 16: " : "Promise 15: ", update, thrifty);
        }
        updates();
        thriftyUpdates();
        mirrors();
        moves();
        confirmations();
        recoveries();
        Check.end();
    }

    // ---- section 4

    private static void bootsWithNew() {
        Check.edge("4: if there is no active page, the journal is formatted", () -> {
            TwinBoot boot = Check.device(BOTH + ";floor 3");
            boot.damageJournal(0, 0, 65535);
            Check.same("boot()", 0, boot.boot());
            Check.same("operations()", 2, boot.operations());
            Devices.journal(boot, 0, 0, 24582, 65535, 65535);
            Check.same("boot() again", 0, boot.boot());
            Check.same("operations()", 2, boot.operations());
        });
        Check.edge("4: if it can be booted and the tries are fewer than TRIES, TRY is appended, and it runs", () -> {
            for (int tries = 1; tries <= 3; tries++) {
                TwinBoot boot = Devices.pending(ONE + ";tries " + tries, 9);
                for (int k = 1; k <= tries; k++) {
                    Check.same("boot() number " + k, 1, boot.boot());
                    Check.same("told(3)", k, boot.told(3));
                    Check.same("journalWord(0, " + (2 + k) + ")", 16405, boot.journalWord(0, 2 + k));
                }
                Check.same("boot() behind TRIES", 0, boot.boot());
                Check.same("the record of it", 20502, boot.journalWord(0, 3 + tries));
            }
        });
        Check.edge("4: 3 TRIES without it in the text", () -> {
            TwinBoot boot = Devices.pending(ONE, 9);
            boot.boot();
            boot.boot();
            Check.same("boot() number 3", 1, boot.boot());
            Check.same("boot() number 4", 0, boot.boot());
        });
        Check.edge("4: a new slot that is not whole: BAD is appended for it", () -> {
            TwinBoot boot = Devices.pending(ONE, 9);
            boot.damage(1, 3, 1);
            Check.same("boot()", 0, boot.boot());
            Devices.journal(boot, 0, 2, 12308, 20502, 65535);
        });
        Check.edge("4: a new slot whose version is at the floor, or below it", () -> {
            TwinBoot at = Devices.pending(ONE, 9);
            Devices.putAll(at, 1009);
            Check.same("boot() at the floor", 1, at.boot());
            TwinBoot below = Devices.pending(PLAIN + ";image 0 200 1;good 0", 9);
            Devices.putAll(below, 1010);
            Check.same("boot() below the floor", 0, below.boot());
            Check.same("told(4)", 2, below.told(4));
        });
        Check.edge("4: tries that are more than TRIES", () -> {
            TwinBoot boot = Devices.pending(ONE + ";tries 1", 9);
            Devices.putAll(boot, 4001, 4001, 4001, 4001);
            Check.same("boot()", 0, boot.boot());
            Check.same("told(4)", 2, boot.told(4));
        });
        Check.edge("4: then (if nothing runs) the good slot: not if BAD was appended for it", () -> {
            TwinBoot boot = Check.device(BOTH + ";tries 1");
            Devices.putAll(boot, 3000, 4000);
            Check.same("boot()", 1, boot.boot());
            Devices.told(boot, 0, NONE, NONE, 0, 1);
        });
        Check.edge("4: nothing can be booted behind BAD", () -> {
            TwinBoot boot = Devices.pending(ONE + ";tries 1", 9);
            boot.boot();
            boot.damage(0, 0, 65535);
            Check.same("boot()", NONE, boot.boot());
            Check.same("state()", 2, boot.state());
            Check.same("told(4)", 2, boot.told(4));
        });
        Check.edge("4: the journal is full when TRY or BAD is appended", () -> {
            TwinBoot boot = Devices.pending(ONE + ";tries 1", 9);
            Devices.fillUpTo(boot, 0);
            Check.same("boot()", 1, boot.boot());
            Devices.journal(boot, 1, 0, Devices.record(Devices.HEAD, 1), 8194, 12308, 16405, 65535);
            boot.damageJournal(1, 11, 1);
            Check.same("boot() again", 0, boot.boot());
            Devices.journal(boot, 0, 0, Devices.record(Devices.HEAD, 2), 8194, 12308, 16405, 20502, 65535);
        });
    }

    private static void bootsWithoutNew() {
        Check.edge("4: the good slot runs if it can be booted", () -> {
            Check.same("boot() of good 0", 0, Check.device(BOTH).boot());
            Check.same("boot() of good 1", 1, Check.device(PLAIN + ";image 0 2 1;image 1 2 1;good 1").boot());
        });
        Check.edge("4: otherwise the smallest slot that can be booted runs (there is no good slot)", () -> {
            Check.same("boot() of both", 0, Check.device(PLAIN + ";image 0 2 1;image 1 2 1").boot());
            Check.same("boot() of slot 1 alone", 1, Check.device(PLAIN + ";image 1 2 1").boot());
            Check.same("boot() of slot 0 alone", 0, Check.device(PLAIN + ";image 0 2 1").boot());
            for (int slot = 0; slot <= 1; slot++) {
                TwinBoot boot = Devices.running(PLAIN + ";image " + slot + " 2 1");
                Check.same("running() of slot " + slot, slot, boot.running());
                Check.same("state() of slot " + slot, 1, boot.state());
                Devices.latest(boot, 0, slot, 0);
            }
        });
        Check.edge("4: otherwise (the good slot is not whole, too old)", () -> {
            Check.same("boot() with an erased good slot", 0, Check.device(PLAIN + ";image 0 2 1;good 1").boot());
            Check.same("boot() with a good slot below the floor", 1, Check.device(BOTH + ";floor 3").boot());
        });
        Check.edge("4: a slot that runs so is not made the good one", () -> {
            TwinBoot boot = Check.device(PLAIN + ";image 1 2 1");
            boot.boot();
            Check.same("told(1)", NONE, boot.told(1));
            Check.same("operations()", 0, boot.operations());
        });
        Check.edge("4: if there is none, nothing runs, and the device waits for recovery", () -> {
            for (String text : new String[] {PLAIN, PLAIN + ";good 0", BOTH + ";floor 4"}) {
                TwinBoot boot = Check.device(text);
                Check.same("boot()", NONE, boot.boot());
                Check.same("state()", 2, boot.state());
                Check.same("running()", NONE, boot.running());
            }
        });
    }

    // ---- promises 9 to 14

    private static void promisesOfPower() {
        Check.edge("Promise 9: operations is 0 to 100000, or NONE", () -> {
            TwinBoot boot = new TwinBoot();
            Check.same("setPower(0)", NONE, boot.setPower(0));
            Check.same("power()", 0, boot.power());
            Check.same("setPower(100000)", 0, boot.setPower(100000));
            Check.same("power()", 100000, boot.power());
            Check.same("setPower(NONE)", 100000, boot.setPower(NONE));
            Check.same("power()", NONE, boot.power());
            Check.same("setPower(NONE) again", NONE, boot.setPower(NONE));
        });
        Check.edge("Promise 9: throws IllegalArgumentException if operations is out of range", () -> {
            TwinBoot boot = Devices.running(ONE);
            boot.setPower(7);
            for (int power : new int[] {-2, 100001}) {
                Devices.throwsBadArgument(boot, "setPower(" + power + ")", () -> boot.setPower(power));
            }
            for (int power : FAR) {
                Check.badArgument("setPower(" + power + ")", () -> boot.setPower(power));
            }
            Check.same("power()", 7, boot.power());
        });
        Check.edge("Promise 9: returns how many there were left", () -> {
            TwinBoot boot = Devices.running(ONE, 7);
            boot.setPower(10);
            boot.update(3);
            Check.same("setPower(5) behind 9 operations", 1, boot.setPower(5));
            Check.same("setPower(5) again", 5, boot.setPower(5));
        });
        Check.edge("Promise 10: NONE without limit", () -> {
            Check.same("power() of a new object", NONE, new TwinBoot().power());
            TwinBoot boot = Devices.running(ONE, 7);
            boot.setPower(3);
            boot.update(3);
            Check.same("power() behind a cut", 0, boot.power());
        });
    }

    private static void promisesOfBoots() {
        Check.edge("Promise 11: if something runs, the device is switched off first", () -> {
            TwinBoot boot = Devices.pending(ONE, 9);
            boot.setPower(0);
            Check.same("boot() that is cut", CUT, boot.boot());
            Check.same("running()", NONE, boot.running());
            Check.same("state()", 0, boot.state());
        });
        Check.edge("Promise 11: NONE if the device waits for recovery", () -> {
            TwinBoot boot = Devices.waiting(PLAIN);
            Check.same("boot() of a waiting device", NONE, boot.boot());
            Check.same("state()", 2, boot.state());
        });
        Check.edge("Promise 11: something runs, and nothing can be booted", () -> {
            TwinBoot boot = Devices.running(ONE);
            boot.damage(0, 3, 65535);
            Check.same("boot()", NONE, boot.boot());
            Check.same("running()", NONE, boot.running());
        });
        Check.edge("Promise 11: CUT if the power was cut (of a waiting device, too)", () -> {
            TwinBoot boot = Devices.waiting(PLAIN);
            boot.damageJournal(0, 0, 65535);
            boot.setPower(1);
            Check.same("boot()", CUT, boot.boot());
            Check.same("state()", 0, boot.state());
            Check.same("operations()", 2, boot.operations());
        });
        Check.edge("Promise 12: NONE if nothing does", () -> {
            TwinBoot boot = Check.device(ONE);
            Check.same("running() when off", NONE, boot.running());
            boot.boot();
            Check.same("running()", 0, boot.running());
            boot.off();
            Check.same("running() behind off()", NONE, boot.running());
            Check.same("running() when waiting", NONE, Devices.waiting(PLAIN).running());
        });
        Check.edge("Promise 13: 0 off, 1 a slot runs, 2 it waits for recovery", () -> {
            TwinBoot boot = Check.device(ONE);
            Check.same("state() at first", 0, boot.state());
            boot.boot();
            Check.same("state() when a slot runs", 1, boot.state());
            boot.damage(0, 0, 65535);
            boot.boot();
            Check.same("state() when it waits", 2, boot.state());
            boot.off();
            Check.same("state() behind off()", 0, boot.state());
        });
        Check.edge("Promise 14: returns true if it was not off", () -> {
            Check.same("off() of a new object", false, new TwinBoot().off());
            TwinBoot boot = Devices.running(ONE);
            Check.same("off() when a slot runs", true, boot.off());
            Check.same("off() again", false, boot.off());
            Check.same("off() when it waits", true, Devices.waiting(PLAIN).off());
            TwinBoot cut = Devices.running(ONE);
            cut.setPower(0);
            cut.mirror();
            Check.same("off() behind a cut", false, cut.off());
        });
        Check.edge("Promise 14: off() is no operation", () -> {
            TwinBoot boot = Devices.running(ONE, 7);
            boot.setPower(0);
            boot.off();
            Check.same("operations()", 0, boot.operations());
            Check.same("logSize()", 1, boot.logSize());
            Check.same("setting(4)", 1, boot.setting(4));
            Check.same("eventCount(1)", 0, boot.eventCount(1));
        });
    }

    // ---- promises 15 and 16: what both updates do

    private static void refusedUpdates(String promise, Update update) {
        Check.edge(promise + "throws IllegalArgumentException if version is out of range", () -> {
            TwinBoot boot = Devices.running(ONE, 7);
            Devices.throwsBadArgument(boot, "update(0)", () -> update.of(boot, 0));
            Devices.throwsBadArgument(boot, "update(256)", () -> update.of(boot, 256));
            for (int version : new int[] {-1, FAR[0], FAR[1]}) {
                Check.badArgument("update(" + version + ")", () -> update.of(boot, version));
            }
        });
        Check.edge(promise + "version is 1 to 255", () -> {
            for (int version : new int[] {1, 255}) {
                TwinBoot boot = Devices.running(ONE, 7);
                Check.same("update(" + version + ")", true, update.of(boot, version) > 0);
                Check.same("word(1, 0)", version, boot.word(1, 0));
            }
        });
        Check.edge(promise + "WRONG_STATE if nothing runs", () -> {
            TwinBoot off = Check.device(ONE);
            off.stage(7);
            Devices.refuses(off, "update(3) when off", WRONG_STATE, () -> update.of(off, 3));
            TwinBoot waiting = Devices.waiting(PLAIN + ";good 0", 7);
            Devices.refuses(waiting, "update(3) when waiting", WRONG_STATE, () -> update.of(waiting, 3));
        });
        Check.edge(promise + "WRONG_STATE if the slot that runs is not the good one", () -> {
            TwinBoot none = Devices.running(PLAIN + ";image 0 2 10", 7);
            Devices.refuses(none, "update(3) without a good slot", WRONG_STATE, () -> update.of(none, 3));
            TwinBoot other = Devices.running(PLAIN + ";image 0 2 10;good 1", 7);
            Devices.refuses(other, "update(3) with another good slot", WRONG_STATE, () -> update.of(other, 3));
            TwinBoot fresh = Devices.pending(ONE, 3);
            fresh.boot();
            fresh.stage(7);
            Devices.refuses(fresh, "update(4) when the new slot runs", WRONG_STATE, () -> update.of(fresh, 4));
            TwinBoot lost = Devices.running(ONE, 7);
            lost.damageJournal(0, 0, 65535);
            Devices.refuses(lost, "update(3) without an active page", WRONG_STATE, () -> update.of(lost, 3));
        });
        Check.edge(promise + "WRONG_STATE if no words are staged", () -> {
            TwinBoot boot = Devices.running(ONE);
            Devices.refuses(boot, "update(3)", WRONG_STATE, () -> update.of(boot, 3));
        });
        Check.edge(promise + "TOO_OLD if the version is less than the floor", () -> {
            TwinBoot boot = Devices.running(ONE + ";floor 2", 7);
            Devices.refuses(boot, "update(1) below the floor", TOO_OLD, () -> update.of(boot, 1));
            Check.same("update(2) at the floor", true, update.of(boot, 2) > 0);
            TwinBoot high = Devices.running(PLAIN + ";image 0 255 1;good 0;floor 255", 7);
            Devices.refuses(high, "update(254) below the floor", TOO_OLD, () -> update.of(high, 254));
            Check.same("update(255) at the floor", true, update.of(high, 255) > 0);
        });
        Check.edge(promise + "6: exceptions come before errors; of several errors the first one", () -> {
            TwinBoot boot = Check.device(ONE + ";floor 2");
            Check.badArgument("update(0) when off", () -> update.of(boot, 0));
            Check.same("update(1) when off", WRONG_STATE, update.of(boot, 1));
            boot.boot();
            Check.same("update(1) below the floor without staged words", WRONG_STATE, update.of(boot, 1));
            boot.stage(7);
            boot.setPower(0);
            Check.same("update(1) below the floor without power", TOO_OLD, update.of(boot, 1));
            Check.same("operations()", 0, boot.operations());
        });
    }

    private static void bothUpdates(String promise, Update update, boolean thrifty) {
        int erasures = thrifty ? 1 : 4;
        Check.edge(promise + "each payload word that is not the staged one already is written", () -> {
            TwinBoot boot = Devices.running(ONE, 65535, 0, 65535, 65534, 65535);
            Check.same("update(3)", erasures + 2 + 3 + 1, update.of(boot, 3));
            Devices.words(boot, 1, 3, 65535, 0, 65535, 65534, 65535, 65535);
        });
        Check.edge(promise + "then word 1, word 2, and word 0 (always)", () -> {
            // 2 + 3 + 65530 is 65535, which an erased word 2 is already
            TwinBoot boot = Devices.running(ONE, 65530);
            Check.same("update(2)", erasures + 1 + 3 + 1, update.of(boot, 2));
            Devices.words(boot, 1, 0, 2, 1, 65535, 65530);
        });
        Check.edge(promise + "the order of word 1, word 2 and word 0", () -> {
            int[][] due = {{65535, 65281, 65535}, {65535, 1, 65294}, {65283, 1, 14}};
            for (int k = 0; k < 3; k++) {
                TwinBoot boot = Devices.running(ONE, 8);
                boot.setPower(erasures + 1 + k);
                Check.same("update(3)", CUT, update.of(boot, 3));
                Devices.words(boot, 1, 0, due[k][0], due[k][1], due[k][2], 8);
            }
        });
        Check.edge(promise + "the shortest and the longest payload", () -> {
            TwinBoot one = Devices.running(ONE, 0);
            Check.same("update(3) of one word", erasures + 1 + 3 + 1, update.of(one, 3));
            Check.same("word(1, 1)", 1, one.word(1, 1));
            TwinBoot all = Devices.running(ONE, 1, 2, 3, 4, 5, 6, 7, 8, 9, 10, 11, 12, 13);
            Check.same("update(3) of 13 words", erasures + 13 + 3 + 1, update.of(all, 3));
            Devices.words(all, 1, 0, 3, 13);
            Devices.words(all, 1, 14, 12, 13);
            Check.same("isWhole(1)", true, all.isWhole(1));
        });
        Check.edge(promise + "NEW is appended for it (the slot that does not run)", () -> {
            TwinBoot zero = Devices.running(PLAIN + ";image 1 2 10;good 1", 7);
            Check.same("update(3) of slot 0", erasures + 1 + 3 + 1, update.of(zero, 3));
            Check.same("told(2)", 0, zero.told(2));
            Check.same("running()", 1, zero.running());
            Check.same("isWhole(0)", true, zero.isWhole(0));
        });
        Check.edge(promise + "NEW is appended to a full journal", () -> {
            TwinBoot boot = Devices.running(ONE, 7);
            Devices.fillUpTo(boot, 0);
            Check.same("update(3)", erasures + 1 + 3 + 3 + 1, update.of(boot, 3));
            Devices.journal(boot, 1, 0, Devices.record(Devices.HEAD, 1), 8194, 12308, 65535);
        });
        Check.edge(promise + "the staged words are forgotten, unless the power is cut", () -> {
            TwinBoot boot = Devices.running(ONE, 7, 8);
            boot.setPower(erasures + 2 + 3);
            Check.same("update(3) with a torn NEW", CUT, update.of(boot, 3));
            Check.same("setting(4) behind a cut", 2, boot.setting(4));
            Check.same("staged(1) behind a cut", 8, boot.staged(1));
            boot.setPower(NONE);
            boot.boot();
            update.of(boot, 3);
            Check.same("setting(4)", 0, boot.setting(4));
            Check.same("staged(0)", NONE, boot.staged(0));
        });
        Check.edge(promise + "CUT if the power was cut; what was done until then stays", () -> {
            TwinBoot boot = Devices.running(BOTH, 7);
            boot.setPower(0);
            Check.same("update(3) with a torn erasure", CUT, update.of(boot, 3));
            Devices.words(boot, 1, 0, 65535, 65535, 3 + 3 + 30, 30);
            Check.same("state()", 0, boot.state());
            Check.same("isWhole(1)", false, boot.isWhole(1));
        });
    }

    private static void updates() {
        Check.edge("Promise 15: its pages are erased in order", () -> {
            for (int power = 0; power <= 3; power++) {
                TwinBoot boot = Devices.running("flash 16 4 12;image 0 2 10;good 0", 7);
                for (int index = 0; index < 16; index++) {
                    boot.damage(1, index, 65535);
                }
                boot.setPower(power);
                Check.same("update(3) with power " + power, CUT, boot.update(3));
                for (int index = 0; index < 16; index++) {
                    int due = index < 4 * power + 2 ? 65535 : 0;
                    Check.same("word(1, " + index + ")", due, boot.word(1, index));
                }
            }
        });
        Check.edge("Promise 15: its pages are erased, also those that are erased already", () -> {
            TwinBoot boot = Devices.running("flash 64 16 12;image 0 2 10;good 0", 7);
            Check.same("update(3)", 4 + 1 + 3 + 1, boot.update(3));
            Check.same("wear(1, 3)", 1, boot.wear(1, 3));
            TwinBoot one = Devices.running("flash 16 16 12;image 0 2 10;good 0", 7);
            Check.same("update(3) of a slot of one page", 1 + 1 + 3 + 1, one.update(3));
            TwinBoot most = Devices.running("flash 64 4 12;image 0 2 10;good 0", 7);
            Check.same("update(3) of a slot of 16 pages", 16 + 1 + 3 + 1, most.update(3));
        });
        Check.edge("Promise 15: words of pages that are worn out", () -> {
            TwinBoot boot = Devices.running(ONE + ";life 1", 1);
            boot.update(3);
            Check.stage(boot, 65534, 65535);
            Check.same("update(3)", 4 + 1 + 3 + 1, boot.update(3));
            // 3 + 2 * 3 + 65534 + 2 * 65535 is 196613, modulo 65536 5; bit 0 of all these words is lost
            Devices.words(boot, 1, 0, 2, 2, 4, 65534, 65534, 65534);
            Check.same("isWhole(1)", false, boot.isWhole(1));
        });
    }

    private static void thriftyUpdates() {
        Check.edge("Promise 16: page 0 is always erased, first", () -> {
            TwinBoot boot = Devices.running(ONE, 7);
            Check.same("thriftyUpdate(3)", 1 + 1 + 3 + 1, boot.thriftyUpdate(3));
            Check.same("wear(1, 0)", 1, boot.wear(1, 0));
            Check.same("wear(1, 1)", 0, boot.wear(1, 1));
            TwinBoot cut = Devices.running(BOTH, 7);
            cut.setPower(0);
            cut.thriftyUpdate(3);
            Check.same("wear(1, 0) behind a cut", 1, cut.wear(1, 0));
        });
        Check.edge("Promise 16: each other page only if a payload word cannot become the staged one", () -> {
            String text = "flash 12 4 12;image 0 2 1;good 0;image 1 2 0 15 15 15 15 15";
            int[][] staged = {{1, 15, 15, 15, 15}, {1, 0, 7, 8, 1}, {1, 16, 15, 15, 15}, {1, 15, 15, 15, 31},
                {1, 15, 15, 15, 15, 65535}, {1}};
            int[] pages = {1, 1, 3, 3, 5, 1};
            int[] operations = {1 + 1 + 4, 1 + 5 + 4, 2 + 5 + 4, 2 + 5 + 4, 2 + 1 + 4, 1 + 1 + 4};
            for (int i = 0; i < staged.length; i++) {
                TwinBoot boot = Devices.running(text, staged[i]);
                Check.same("thriftyPages() of case " + i, pages[i], boot.thriftyPages());
                Check.same("thriftyUpdate(3) of case " + i, operations[i], boot.thriftyUpdate(3));
                for (int page = 0; page < 3; page++) {
                    Check.same("wear(1, " + page + ")", pages[i] >> page & 1, boot.wear(1, page));
                }
                Check.same("isWhole(1)", true, boot.isWhole(1));
            }
        });
        Check.edge("Promise 16: words behind the payload are no payload words", () -> {
            TwinBoot boot = Devices.running("flash 12 4 12;image 0 2 1;good 0;image 1 2 0 15 0 0 0 0", 1, 15);
            Check.same("thriftyUpdate(3)", 1 + 1 + 3 + 1, boot.thriftyUpdate(3));
            Devices.words(boot, 1, 0, 3, 2, 3 + 6 + 1 + 30, 1, 15, 0, 0, 0, 0);
        });
        Check.edge("Promise 16: the pages are erased in order", () -> {
            String text = "flash 12 4 12;image 0 2 1;good 0;image 1 2 1 2 0 0 0 0";
            TwinBoot boot = Devices.running(text, 1, 2, 3, 4, 5, 6);
            Check.same("thriftyPages()", 7, boot.thriftyPages());
            boot.setPower(2);
            Check.same("thriftyUpdate(3)", CUT, boot.thriftyUpdate(3));
            Check.same("wear(1, 1)", 1, boot.wear(1, 1));
            Devices.words(boot, 1, 3, 65535, 65535, 65535, 65535, 65535, 65535, 65535, 65535, 65535);
            TwinBoot first = Devices.running(text, 1, 2, 3, 4, 5, 6);
            first.setPower(1);
            first.thriftyUpdate(3);
            Devices.words(first, 1, 3, 65535, 65535, 65535, 0, 0, 0);
        });
        Check.edge("Promise 16: a page that is worn out and need not be erased", () -> {
            TwinBoot boot = Devices.running(ONE + ";life 1", 6, 20, 65534);
            boot.mirror();
            boot.mirror();
            Check.same("thriftyPages()", 1, boot.thriftyPages());
            Check.stage(boot, 6, 20, 65535);
            Check.same("thriftyPages() of a word that cannot be", 3, boot.thriftyPages());
        });
    }

    // ---- promises 17 to 20

    private static void mirrors() {
        Check.edge("Promise 17: WRONG_STATE if nothing runs", () -> {
            TwinBoot off = Check.device(ONE);
            Devices.refuses(off, "mirror() when off", WRONG_STATE, () -> off.mirror());
            TwinBoot waiting = Devices.waiting(PLAIN + ";good 0");
            Devices.refuses(waiting, "mirror() when waiting", WRONG_STATE, () -> waiting.mirror());
        });
        Check.edge("Promise 17: WRONG_STATE if the slot that runs is not the good one", () -> {
            TwinBoot none = Devices.running(PLAIN + ";image 0 2 10");
            Devices.refuses(none, "mirror() without a good slot", WRONG_STATE, () -> none.mirror());
            TwinBoot fresh = Devices.pending(ONE, 3);
            fresh.boot();
            Devices.refuses(fresh, "mirror() when the new slot runs", WRONG_STATE, () -> fresh.mirror());
            fresh.confirm();
            Check.same("mirror() behind confirm()", 9, fresh.mirror());
        });
        Check.edge("Promise 17: WRONG_STATE if the slot that runs is not whole", () -> {
            int[][] damages = {{0, 65535}, {1, 65535}, {2, 2}, {4, 4}};
            for (int[] damage : damages) {
                TwinBoot boot = Devices.running(ONE);
                boot.damage(0, damage[0], damage[1]);
                Check.same("isWhole(0)", false, boot.isWhole(0));
                Devices.refuses(boot, "mirror()", WRONG_STATE, () -> boot.mirror());
            }
        });
        Check.edge("Promise 17: CUT if the power was cut", () -> {
            for (int power : new int[] {0, 4, 9}) {
                TwinBoot boot = Devices.running(ONE);
                boot.setPower(power);
                Check.same("mirror() with power " + power, CUT, boot.mirror());
                Check.same("state()", 0, boot.state());
                Check.same("recordCount()", 1, boot.recordCount());
            }
            TwinBoot exact = Devices.running(ONE);
            exact.setPower(10);
            Check.same("mirror() with power for it", 10, exact.mirror());
        });
        Check.edge("Promise 17: GOOD for the slot that runs; the other one stays new or bad", () -> {
            TwinBoot boot = Devices.pending(ONE, 3);
            boot.mirror();
            Devices.told(boot, 0, 0, 1, 0, 0);
            Devices.latest(boot, 3, 0, 9 + 10);
            TwinBoot bad = Devices.running(ONE);
            Devices.putAll(bad, 5001);
            bad.mirror();
            Devices.told(bad, 0, 0, NONE, 0, 2);
        });
        Check.edge("Promise 17: the staged words stay, also if there are none", () -> {
            TwinBoot boot = Devices.running(ONE);
            Check.same("mirror() without staged words", 10, boot.mirror());
            Check.stage(boot, 5, 6);
            boot.mirror();
            Check.same("setting(4)", 2, boot.setting(4));
            Check.same("staged(1)", 6, boot.staged(1));
        });
        Check.edge("Promise 17: the image of the slot that runs, the longest one", () -> {
            TwinBoot boot = Devices.running("flash 8 4 12;image 1 255 65535 0 65535 1 65535;good 1");
            Check.same("mirror()", 2 + 2 + 3 + 1, boot.mirror());
            Check.same("differences()", 0, boot.differences());
            Check.same("isWhole(0)", true, boot.isWhole(0));
        });
    }

    private static void moves() {
        Check.edge("Promise 18: also if there are free words", () -> {
            TwinBoot boot = Devices.running(ONE);
            Check.same("moveJournal()", 1, boot.moveJournal());
            Check.same("moveJournal() again", 0, boot.moveJournal());
            Check.same("freeWords()", 10, boot.freeWords());
        });
        Check.edge("Promise 18: WRONG_STATE if the device is off", () -> {
            TwinBoot boot = Check.device(ONE);
            Devices.refuses(boot, "moveJournal()", WRONG_STATE, () -> boot.moveJournal());
            boot.boot();
            boot.off();
            Devices.refuses(boot, "moveJournal() behind off()", WRONG_STATE, () -> boot.moveJournal());
        });
        Check.edge("Promise 18: the device waits for recovery, so it is not off", () -> {
            Check.same("moveJournal()", 1, Devices.waiting(PLAIN).moveJournal());
        });
        Check.edge("Promise 18: WRONG_STATE if there is no active page", () -> {
            TwinBoot boot = Devices.running(ONE);
            boot.damageJournal(0, 0, 65535);
            Devices.refuses(boot, "moveJournal()", WRONG_STATE, () -> boot.moveJournal());
        });
        Check.edge("Promise 18: CUT if the power was cut", () -> {
            TwinBoot boot = Devices.running(ONE);
            boot.setPower(2);
            Check.same("moveJournal() with a torn HEAD", CUT, boot.moveJournal());
            Check.same("activePage()", 0, boot.activePage());
            Check.same("state()", 0, boot.state());
            boot.boot();
            boot.setPower(3);
            Check.same("moveJournal() with power for it", 1, boot.moveJournal());
            Check.same("state()", 1, boot.state());
        });
    }

    private static void confirmations() {
        Check.edge("Promise 19: WRONG_STATE if no slot runs", () -> {
            TwinBoot off = Devices.pending(ONE, 3);
            off.off();
            Devices.refuses(off, "confirm() when off", WRONG_STATE, () -> off.confirm());
            TwinBoot waiting = Devices.waiting(PLAIN);
            Devices.refuses(waiting, "confirm() when waiting", WRONG_STATE, () -> waiting.confirm());
        });
        Check.edge("Promise 19: WRONG_STATE if it is not the new one", () -> {
            TwinBoot good = Devices.pending(ONE, 3);
            Devices.refuses(good, "confirm() of the slot beside the new one", WRONG_STATE, () -> good.confirm());
            good.boot();
            Check.same("confirm()", 3, good.confirm());
            Devices.refuses(good, "confirm() again", WRONG_STATE, () -> good.confirm());
            TwinBoot none = Devices.running(PLAIN + ";image 0 3 4");
            Devices.refuses(none, "confirm() without a new slot", WRONG_STATE, () -> none.confirm());
            TwinBoot lost = Devices.pending(ONE, 3);
            lost.boot();
            lost.damageJournal(0, 0, 65535);
            Devices.refuses(lost, "confirm() without an active page", WRONG_STATE, () -> lost.confirm());
        });
        Check.edge("Promise 19: if its version is greater than the floor, FLOOR with its version is appended", () -> {
            int[][] cases = {{3, 4, 1}, {3, 3, 0}, {0, 1, 1}, {254, 255, 1}, {255, 255, 0}};
            for (int[] one : cases) {
                String text = PLAIN + ";image 0 255 1;good 0;floor " + one[0];
                TwinBoot boot = Devices.pending(text, one[1]);
                boot.boot();
                int before = boot.recordCount();
                Check.same("confirm()", one[1], boot.confirm());
                Check.same("recordCount()", before + 1 + one[2], boot.recordCount());
                Check.same("told(0)", one[1], boot.told(0));
                Check.same("operations()", 9 + 1 + 1 + one[2], boot.operations());
            }
        });
        Check.edge("Promise 19: its version is less than the floor (it was damaged while it ran)", () -> {
            TwinBoot boot = Devices.pending(ONE + ";floor 2", 3);
            boot.boot();
            boot.damage(1, 0, 2);
            Check.same("word(1, 0)", 1, boot.word(1, 0));
            Check.same("confirm()", 2, boot.confirm());
            Check.same("told(1)", 1, boot.told(1));
            Check.same("told(0)", 2, boot.told(0));
        });
        Check.edge("Promise 19: the version 0 is not greater than the floor 0", () -> {
            TwinBoot boot = Devices.pending(ONE, 3);
            boot.boot();
            boot.damage(1, 0, 65535);
            Check.same("confirm()", 0, boot.confirm());
            Check.same("operations()", 9 + 1 + 1, boot.operations());
        });
        Check.edge("Promise 19: CUT if the power was cut (at GOOD, at FLOOR)", () -> {
            for (int power = 0; power <= 2; power++) {
                TwinBoot boot = Devices.pending(ONE, 3);
                boot.boot();
                boot.setPower(power);
                Check.same("confirm() with power " + power, power < 2 ? CUT : 3, boot.confirm());
                Devices.told(boot, power < 2 ? 0 : 3, power < 1 ? 0 : 1, power < 1 ? 1 : NONE, power < 1 ? 1 : 0, 0);
                Check.same("state()", power < 2 ? 0 : 1, boot.state());
                Check.same("spoiled()", power < 2 ? 1 : 0, boot.spoiled());
            }
        });
        Check.edge("Promise 19: the journal is full behind GOOD, and before it", () -> {
            for (int left = 0; left <= 1; left++) {
                TwinBoot boot = Devices.pending(ONE, 3);
                boot.boot();
                Devices.fillUpTo(boot, left);
                Check.same("confirm() with free words " + left, 3, boot.confirm());
                Check.same("activePage()", 1, boot.activePage());
                Devices.told(boot, 3, 1, NONE, 0, 0);
                // GOOD, NEW and TRY are moved before GOOD, or GOOD alone before FLOOR
                Check.same("recordCount()", left == 0 ? 5 : 2, boot.recordCount());
            }
        });
    }

    private static void recoveries() {
        Check.edge("Promise 20: throws IllegalArgumentException if slot or version is out of range", () -> {
            TwinBoot boot = Devices.waiting(PLAIN, 7);
            int[][] wrong = {{-1, 1}, {2, 1}, {0, 0}, {0, 256}, {1, -1}};
            for (int[] one : wrong) {
                String call = "recover(" + one[0] + ", " + one[1] + ")";
                TwinBoot fresh = Devices.waiting(PLAIN, 7);
                Devices.throwsBadArgument(fresh, call, () -> fresh.recover(one[0], one[1]));
            }
            for (int far : FAR) {
                Check.badArgument("recover(" + far + ", 1)", () -> boot.recover(far, 1));
                Check.badArgument("recover(0, " + far + ")", () -> boot.recover(0, far));
            }
        });
        Check.edge("Promise 20: slot is 0 or 1, version is 1 to 255", () -> {
            for (int slot = 0; slot <= 1; slot++) {
                TwinBoot boot = Devices.waiting(PLAIN, 7);
                int version = slot == 0 ? 1 : 255;
                Check.same("recover(" + slot + ", " + version + ")", 9, boot.recover(slot, version));
                Devices.words(boot, slot, 0, version, 1, version + 3 + 7, 7, 65535);
                Check.same("boot()", slot, boot.boot());
            }
        });
        Check.edge("Promise 20: WRONG_STATE if the device does not wait for recovery", () -> {
            TwinBoot off = Check.device(PLAIN);
            off.stage(7);
            Devices.refuses(off, "recover(0, 3) when off", WRONG_STATE, () -> off.recover(0, 3));
            TwinBoot running = Devices.running(ONE, 7);
            Devices.refuses(running, "recover(1, 3) when a slot runs", WRONG_STATE, () -> running.recover(1, 3));
            TwinBoot switched = Devices.waiting(PLAIN, 7);
            switched.off();
            Devices.refuses(switched, "recover(0, 3) behind off()", WRONG_STATE, () -> switched.recover(0, 3));
        });
        Check.edge("Promise 20: WRONG_STATE if no words are staged", () -> {
            TwinBoot boot = Devices.waiting(PLAIN);
            Devices.refuses(boot, "recover(0, 3)", WRONG_STATE, () -> boot.recover(0, 3));
        });
        Check.edge("Promise 20: TOO_OLD if the version is less than the floor", () -> {
            TwinBoot boot = Devices.waiting(PLAIN + ";floor 5", 7);
            Devices.refuses(boot, "recover(0, 4)", TOO_OLD, () -> boot.recover(0, 4));
            Check.same("recover(0, 5)", 9, boot.recover(0, 5));
        });
        Check.edge("Promise 20: 6: exceptions come before errors; of several errors the first one", () -> {
            TwinBoot boot = Check.device(PLAIN + ";floor 5");
            Check.badArgument("recover(2, 1) when off", () -> boot.recover(2, 1));
            Check.badArgument("recover(0, 0) when off", () -> boot.recover(0, 0));
            Check.same("recover(0, 1) when off", WRONG_STATE, boot.recover(0, 1));
            boot.boot();
            Check.same("recover(0, 1) without staged words", WRONG_STATE, boot.recover(0, 1));
            boot.stage(7);
            boot.setPower(0);
            Check.same("recover(0, 1) without power", TOO_OLD, boot.recover(0, 1));
        });
        Check.edge("Promise 20: then the device is off, the staged words are forgotten", () -> {
            TwinBoot boot = Devices.waiting(PLAIN, 7);
            boot.recover(0, 3);
            Check.same("state()", 0, boot.state());
            Check.same("running()", NONE, boot.running());
            Check.same("setting(4)", 0, boot.setting(4));
            Check.same("off()", false, boot.off());
        });
        Check.edge("Promise 20: CUT if the power was cut; the staged words stay then", () -> {
            for (int power : new int[] {0, 4, 8}) {
                TwinBoot boot = Devices.waiting(PLAIN, 7);
                boot.setPower(power);
                Check.same("recover(0, 3) with power " + power, CUT, boot.recover(0, 3));
                Check.same("state()", 0, boot.state());
                Check.same("setting(4)", 1, boot.setting(4));
                Check.same("told(1)", NONE, boot.told(1));
                Check.same("operations()", power + 1, boot.operations());
            }
            TwinBoot exact = Devices.waiting(PLAIN, 7);
            exact.setPower(9);
            Check.same("recover(0, 3) with power for it", 9, exact.recover(0, 3));
        });
        Check.edge("Promise 20: in place of NEW, GOOD is appended for the slot (which is bad no more)", () -> {
            TwinBoot boot = Devices.running(ONE);
            Devices.putAll(boot, 5000, 5001);
            boot.boot();
            Check.stage(boot, 7);
            Check.same("recover(1, 3)", 9, boot.recover(1, 3));
            Devices.told(boot, 0, 1, NONE, 0, 1);
            Check.same("boot()", 1, boot.boot());
        });
        Check.edge("Promise 20: the number of operations that this took (not those before it)", () -> {
            TwinBoot boot = Devices.running(ONE, 7);
            boot.moveJournal();
            boot.damage(0, 3, 65535);
            boot.boot();
            Check.same("operations() before it", 3, boot.operations());
            Check.same("recover(0, 3)", 9, boot.recover(0, 3));
            Check.same("operations()", 12, boot.operations());
        });
        Check.edge("Promise 20: GOOD is appended to a full journal", () -> {
            TwinBoot boot = Devices.waiting(PLAIN + ";floor 2", 7);
            Devices.fillUpTo(boot, 0);
            Check.same("recover(0, 2)", 8 + 3 + 1, boot.recover(0, 2));
            Devices.journal(boot, 1, 0, Devices.record(Devices.HEAD, 1), 4096 + 32 + 3, 8194, 65535);
        });
    }
}
