/** Section 6 and promises 60 to 64: a test of its own for each sentence that names a boundary case. */
public final class EdgesOfLogTest {
    private static final int NONE = TwinBoot.NONE;
    private static final int CUT = TwinBoot.CUT;
    private static final String PLAIN = Devices.PLAIN;
    private static final String ONE = Devices.ONE;
    private static final int[] FAR = {Integer.MIN_VALUE, Integer.MAX_VALUE};

    public static void main(String[] args) {
        constants();
        eventsOfBoots();
        eventsOfRecords();
        eventsAreDone();
        sizesOfLogs();
        promisesOfLogs();
        snapshots();
        refusedSnapshots();
        manyCalls();
        Check.end();
    }

    private static void constants() {
        Check.edge("The constants", () -> {
            Check.same("NONE", -1, TwinBoot.NONE);
            Check.same("FULL", -2, TwinBoot.FULL);
            Check.same("WRONG_STATE", -3, TwinBoot.WRONG_STATE);
            Check.same("CUT", -4, TwinBoot.CUT);
            Check.same("TOO_OLD", -5, TwinBoot.TOO_OLD);
        });
    }

    // ---- section 6: events

    private static void eventsOfBoots() {
        Check.edge("6: 0 a slot runs (with the slot)", () -> {
            TwinBoot zero = Devices.running(ONE);
            Devices.latest(zero, 0, 0, 0);
            Devices.latest(Devices.running(PLAIN + ";image 1 2 1"), 0, 1, 0);
            zero.boot();
            Check.same("logSize() behind a second boot", 2, zero.logSize());
        });
        Check.edge("6: 1 the power is cut; the number with it is 0", () -> {
            TwinBoot boot = Devices.running(PLAIN + ";image 1 2 1;good 1", 7);
            boot.setPower(0);
            boot.update(3);
            Devices.latest(boot, 1, 0, 1);
            Check.same("logSize()", 2, boot.logSize());
        });
        Check.edge("6: 6 the journal was formatted; the number with it is 0", () -> {
            TwinBoot boot = Check.device(PLAIN + ";image 1 2 1;good 1");
            boot.damageJournal(0, 0, 65535);
            boot.boot();
            Check.same("logSize()", 2, boot.logSize());
            Check.same("logEntry(0, 0)", 6, boot.logEntry(0, 0));
            Check.same("logEntry(0, 1)", 0, boot.logEntry(0, 1));
            Check.same("logEntry(0, 2)", 2, boot.logEntry(0, 2));
            Devices.latest(boot, 0, 1, 2);
        });
        Check.edge("6: 7 the device waits for recovery; the number with it is 0", () -> {
            Devices.latest(Devices.waiting(PLAIN + ";good 1"), 7, 0, 0);
        });
    }

    private static void eventsOfRecords() {
        Check.edge("6: 2 a NEW record was appended (with the slot)", () -> {
            Devices.latest(Devices.pending(ONE, 3), 2, 1, 9);
            Devices.latest(Devices.pending(PLAIN + ";image 1 2 1;good 1", 3), 2, 0, 9);
        });
        Check.edge("6: 3 a GOOD record (with the slot)", () -> {
            TwinBoot boot = Devices.pending(ONE, 3);
            boot.boot();
            boot.confirm();
            Devices.latest(boot, 3, 1, 11);
            TwinBoot recovered = Devices.waiting(PLAIN, 7);
            recovered.recover(0, 3);
            Devices.latest(recovered, 3, 0, 9);
        });
        Check.edge("6: 4 a BAD record (with the slot)", () -> {
            TwinBoot boot = Devices.pending(PLAIN + ";image 0 2 1;good 0;tries 1", 3);
            boot.boot();
            boot.boot();
            Check.same("logEntry(3, 0)", 4, boot.logEntry(3, 0));
            Check.same("logEntry(3, 1)", 1, boot.logEntry(3, 1));
            Check.same("logEntry(3, 2)", 11, boot.logEntry(3, 2));
        });
        Check.edge("6: TRY and FLOOR records are no events", () -> {
            TwinBoot boot = Devices.pending(ONE, 3);
            boot.boot();
            Check.same("logSize() behind TRY", 3, boot.logSize());
            Devices.latest(boot, 0, 1, 10);
            boot.confirm();
            Check.same("logSize() behind GOOD and FLOOR", 4, boot.logSize());
        });
        Check.edge("6: 5 the journal was moved (with the new active page)", () -> {
            TwinBoot boot = Devices.running(ONE);
            boot.moveJournal();
            Devices.latest(boot, 5, 1, 3);
            boot.moveJournal();
            Devices.latest(boot, 5, 0, 6);
        });
        Check.edge("6: records that are written when the journal is moved are not logged", () -> {
            TwinBoot boot = Devices.running(ONE);
            Devices.putAll(boot, 5001, 3001, 4001);
            boot.moveJournal();
            Check.same("logSize()", 2, boot.logSize());
            for (int event = 2; event <= 4; event++) {
                Check.same("eventCount(" + event + ")", 0, boot.eventCount(event));
            }
        });
    }

    private static void eventsAreDone() {
        Check.edge("6: an event is logged when the operation that completes it is done: a torn record is none", () -> {
            TwinBoot boot = Devices.running(ONE, 7);
            boot.setPower(8);
            boot.update(3);
            Check.same("eventCount(2)", 0, boot.eventCount(2));
            Devices.latest(boot, 1, 0, 9);
        });
        Check.edge("6: a move and a format are completed by HEAD", () -> {
            TwinBoot move = Devices.running(ONE);
            move.setPower(2);
            move.moveJournal();
            Check.same("eventCount(5) behind a torn HEAD", 0, move.eventCount(5));
            TwinBoot format = new TwinBoot();
            format.damageJournal(0, 0, 65535);
            format.setPower(1);
            Check.same("boot()", CUT, format.boot());
            Check.same("eventCount(6) behind a torn HEAD", 0, format.eventCount(6));
            format.setPower(2);
            format.boot();
            Check.same("logEntry(1, 0)", 6, format.logEntry(1, 0));
            Check.same("logEntry(1, 2)", 4, format.logEntry(1, 2));
        });
        Check.edge("6: the move is logged before the record for which it was done", () -> {
            TwinBoot boot = Devices.running(ONE, 7);
            Devices.fillUpTo(boot, 0);
            boot.setPower(11);
            Check.same("update(3) with a torn NEW behind the move", CUT, boot.update(3));
            Check.same("logEntry(1, 0)", 5, boot.logEntry(1, 0));
            Check.same("logEntry(1, 1)", 1, boot.logEntry(1, 1));
            Check.same("logEntry(1, 2)", 11, boot.logEntry(1, 2));
            Devices.latest(boot, 1, 0, 12);
        });
    }

    private static void sizesOfLogs() {
        Check.edge("6: the log keeps the latest 40 events", () -> {
            TwinBoot boot = Check.device(PLAIN + ";image 1 2 1");
            boot.boot();
            for (int k = 1; k < 40; k++) {
                Check.same("logSize() of " + k, k, boot.logSize());
                boot.moveJournal();
            }
            Check.same("logSize() of 40", 40, boot.logSize());
            Check.same("logEntry(0, 0) of 40", 0, boot.logEntry(0, 0));
            Check.same("logEntry(0, 1) of 40", 1, boot.logEntry(0, 1));
            boot.moveJournal();
            Check.same("logSize() of 41", 40, boot.logSize());
            Check.same("logEntry(0, 0) of 41", 5, boot.logEntry(0, 0));
            Check.same("logEntry(0, 2) of 41", 2, boot.logEntry(0, 2));
            Check.same("logEntry(39, 2) of 41", 80, boot.logEntry(39, 2));
            Check.same("logEntry(40, 2) of 41", NONE, boot.logEntry(40, 2));
        });
        Check.edge("6: the latest 40 events of more than 80", () -> {
            TwinBoot boot = Check.device(PLAIN);
            for (int k = 0; k < 85; k++) {
                boot.boot();
                if (k == 45) {
                    boot.moveJournal();
                }
            }
            // 86 events: 46 boots, the move, 39 boots
            Check.same("logSize()", 40, boot.logSize());
            Check.same("logEntry(0, 0)", 5, boot.logEntry(0, 0));
            Check.same("logEntry(1, 0)", 7, boot.logEntry(1, 0));
            Check.same("logEntry(39, 0)", 7, boot.logEntry(39, 0));
            boot.boot();
            Check.same("logEntry(0, 0) of one more", 7, boot.logEntry(0, 0));
        });
    }

    private static void promisesOfLogs() {
        Check.edge("Promise 60: 0 to 40", () -> {
            TwinBoot boot = Check.device(PLAIN);
            Check.same("logSize() at first", 0, boot.logSize());
            for (int k = 0; k < 100; k++) {
                boot.boot();
            }
            Check.same("logSize() of 100 events", 40, boot.logSize());
            Check.load(boot, PLAIN);
            Check.same("logSize() behind load()", 0, boot.logSize());
        });
        Check.edge("Promise 61: NONE if there is no such entry", () -> {
            TwinBoot boot = new TwinBoot();
            Check.same("logEntry(0, 0) of an empty log", NONE, boot.logEntry(0, 0));
            boot.boot();
            for (int index : new int[] {-1, 1, 39, 40, 41, FAR[0], FAR[1]}) {
                for (int what = 0; what <= 2; what++) {
                    Check.same("logEntry(" + index + ", " + what + ")", NONE, boot.logEntry(index, what));
                }
            }
            Check.load(boot, PLAIN);
            Check.same("logEntry(0, 0) behind load()", NONE, boot.logEntry(0, 0));
        });
        Check.edge("Promise 61: throws IllegalArgumentException if what is out of range", () -> {
            TwinBoot boot = new TwinBoot();
            for (int what : new int[] {-1, 3, FAR[0], FAR[1]}) {
                Check.badArgument("logEntry(0, " + what + ") of an empty log", () -> boot.logEntry(0, what));
                Check.badArgument("logEntry(-1, " + what + ")", () -> boot.logEntry(-1, what));
            }
        });
        Check.edge("Promise 62: since load() or the beginning (also those that the log keeps no more)", () -> {
            TwinBoot boot = Check.device(PLAIN);
            for (int event = 0; event <= 7; event++) {
                Check.same("eventCount(" + event + ")", 0, boot.eventCount(event));
            }
            for (int k = 0; k < 41; k++) {
                boot.boot();
            }
            Check.same("eventCount(7) of 41", 41, boot.eventCount(7));
            Check.load(boot, "x");
            Check.same("eventCount(7) behind a load() that is refused", 41, boot.eventCount(7));
            Check.load(boot, PLAIN);
            Check.same("eventCount(7) behind load()", 0, boot.eventCount(7));
        });
        Check.edge("Promise 62: throws IllegalArgumentException if event is out of range", () -> {
            TwinBoot boot = new TwinBoot();
            for (int event : new int[] {-1, 8, FAR[0], FAR[1]}) {
                Check.badArgument("eventCount(" + event + ")", () -> boot.eventCount(event));
            }
        });
    }

    // ---- section 6: snapshots

    private static TwinBoot busy() {
        TwinBoot boot = Devices.pending(Devices.BOTH + ";tries 2;life 1;floor 1", 3);
        boot.moveJournal();
        Check.stage(boot, 8, 9);
        boot.update(4);
        Check.stage(boot, 5, 6, 7);
        boot.setPower(33);
        return boot;
    }

    private static void snapshots() {
        Check.edge("6: a snapshot contains everything", () -> {
            for (int place = 0; place <= 1; place++) {
                TwinBoot boot = busy();
                String before = Devices.everything(boot);
                Check.same("saveSnapshot(" + place + ")", boot.operations(), boot.saveSnapshot(place));
                boot.boot();
                Check.load(boot, "flash 64 16 32;tries 1;life 9;floor 7;image 0 8 1 2 3;image 1 8 4 5 6;good 0");
                boot.boot();
                boot.mirror();
                Check.same("restoreSnapshot(" + place + ")", 9 + 5 + 4 + 2 + 3 + 1, boot.restoreSnapshot(place));
                Check.same("the device that is restored", before, Devices.everything(boot));
            }
        });
        Check.edge("6: a snapshot contains everything: what runs, and whether it is off or waits", () -> {
            TwinBoot[] devices = {Check.device(ONE), Devices.running(ONE), Devices.waiting(PLAIN),
                Devices.running(PLAIN + ";image 1 2 1")};
            for (TwinBoot boot : devices) {
                int state = boot.state();
                int running = boot.running();
                for (String text : new String[] {ONE, PLAIN + ";image 1 2 1", PLAIN}) {
                    boot.saveSnapshot(1);
                    Check.load(boot, text);
                    boot.boot();
                    boot.restoreSnapshot(1);
                    Check.same("state() that is restored", state, boot.state());
                    Check.same("running() that is restored", running, boot.running());
                    Check.load(boot, text);
                    boot.restoreSnapshot(1);
                    Check.same("state() that is restored to a device that is off", state, boot.state());
                    Check.same("running() that is restored to a device that is off", running, boot.running());
                }
            }
        });
        Check.edge("6: everything except the input buffer", () -> {
            TwinBoot boot = new TwinBoot();
            boot.append(0x666c617368L);
            boot.saveSnapshot(0);
            boot.append(0x203136L);
            boot.restoreSnapshot(0);
            Check.same("append behind restoreSnapshot(0)", 13, boot.append(0x2034203132L));
            Check.same("load()", 0, boot.load());
            boot.restoreSnapshot(0);
            Check.same("append(0) behind load()", 0, boot.append(0));
        });
        Check.edge("6: everything except the result of the latest load", () -> {
            TwinBoot boot = new TwinBoot();
            boot.saveSnapshot(0);
            Check.load(boot, "flash 7");
            boot.restoreSnapshot(0);
            Check.same("loadError()", 2, boot.loadError());
            boot.saveSnapshot(1);
            Check.load(boot, PLAIN);
            boot.restoreSnapshot(1);
            Check.same("loadError() of a later right text", 0, boot.loadError());
        });
        Check.edge("6: everything except the snapshots", () -> {
            TwinBoot boot = new TwinBoot();
            boot.saveSnapshot(0);
            boot.stage(5);
            boot.saveSnapshot(1);
            boot.restoreSnapshot(0);
            Check.same("restoreSnapshot(1)", 0, boot.restoreSnapshot(1));
            Check.same("staged(0)", 5, boot.staged(0));
        });
        Check.edge("Promise 63: copies (later calls do not change the snapshot); a second one replaces it", () -> {
            TwinBoot boot = busy();
            boot.saveSnapshot(0);
            int before = boot.operations();
            boot.setPower(NONE);
            boot.moveJournal();
            Check.same("restoreSnapshot(0)", before, boot.restoreSnapshot(0));
            boot.setPower(NONE);
            boot.moveJournal();
            Check.same("saveSnapshot(0) again", boot.operations(), boot.saveSnapshot(0));
            boot.moveJournal();
            Check.same("restoreSnapshot(0) of the second one", before + 5, boot.restoreSnapshot(0));
        });
        Check.edge("Promise 64: by a copy of a snapshot, which stays", () -> {
            TwinBoot boot = Devices.running(ONE, 7);
            boot.saveSnapshot(1);
            String before = Devices.everything(boot);
            for (int k = 0; k < 2; k++) {
                boot.update(3);
                boot.boot();
                boot.damageJournal(1, 3, 65535);
                Check.same("restoreSnapshot(1)", 0, boot.restoreSnapshot(1));
            }
            Check.same("the device that is restored twice", before, Devices.everything(boot));
        });
    }

    private static void refusedSnapshots() {
        Check.edge("Promise 63: throws IllegalArgumentException if place is out of range", () -> {
            for (int place : new int[] {-1, 2, FAR[0], FAR[1]}) {
                TwinBoot boot = Devices.running(ONE, 7);
                Devices.throwsBadArgument(boot, "saveSnapshot(" + place + ")", () -> boot.saveSnapshot(place));
                Check.same("restoreSnapshot(0)", NONE, boot.restoreSnapshot(0));
                Check.same("restoreSnapshot(1)", NONE, boot.restoreSnapshot(1));
            }
        });
        Check.edge("Promise 64: NONE if nothing was saved there", () -> {
            TwinBoot boot = Devices.running(ONE, 7);
            Devices.refuses(boot, "restoreSnapshot(0)", NONE, () -> boot.restoreSnapshot(0));
            boot.saveSnapshot(0);
            boot.moveJournal();
            Check.same("restoreSnapshot(1)", NONE, boot.restoreSnapshot(1));
            Check.same("generation()", 1, boot.generation());
        });
        Check.edge("Promise 64: throws IllegalArgumentException if place is out of range", () -> {
            for (int place : new int[] {-1, 2, FAR[0], FAR[1]}) {
                TwinBoot boot = Devices.running(ONE, 7);
                boot.saveSnapshot(0);
                boot.saveSnapshot(1);
                boot.moveJournal();
                Devices.throwsBadArgument(boot, "restoreSnapshot(" + place + ")", () -> boot.restoreSnapshot(place));
            }
        });
    }

    private static void manyCalls() {
        Check.edge("An object is used for at most 512 calls: the last one is answered as the first", () -> {
            TwinBoot boot = new TwinBoot();
            boot.boot();
            for (int call = 2; call <= 510; call++) {
                Check.same("moveJournal(), call " + call, (call - 1) % 2, boot.moveJournal());
            }
            Check.same("generation(), call 511", 509 % 256, boot.generation());
            Check.same("operations(), call 512", 2 * 509, boot.operations());
        });
    }
}
