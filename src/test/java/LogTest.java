/** Promises 60 to 64: the log and snapshots. */
public final class LogTest {
    private static final int NONE = TwinBoot.NONE;
    private static final String TEXT = "flash 16 4 12;image 0 2 10 20;good 0;tries 1";

    public static void main(String[] args) {
        events();
        longLog();
        wrongArguments();
        snapshots();
        snapshotsContainTheLog();
        snapshotsContainEverything();
        Check.end();
    }

    private static void entry(TwinBoot boot, int index, int event, int number, int time) {
        Check.same("logEntry(" + index + ", 0)", event, boot.logEntry(index, 0));
        Check.same("logEntry(" + index + ", 1)", number, boot.logEntry(index, 1));
        Check.same("logEntry(" + index + ", 2)", time, boot.logEntry(index, 2));
    }

    private static void events() {
        TwinBoot boot = Check.device(TEXT);
        Check.same("logSize() at first", 0, boot.logSize());
        Check.same("logEntry(0, 0) at first", NONE, boot.logEntry(0, 0));
        boot.boot();
        Check.stage(boot, 7);
        boot.update(3);
        boot.boot();
        boot.boot();
        boot.moveJournal();
        boot.setPower(2);
        boot.mirror();
        boot.setPower(NONE);
        boot.damageJournal(1, 0, 65535);
        boot.damageJournal(0, 0, 65535);
        boot.damage(0, 3, 65535);
        boot.boot();
        Check.stage(boot, 9);
        boot.recover(1, 4);
        boot.boot();
        boot.bootWould();
        boot.off();
        entry(boot, 0, 0, 0, 0);
        entry(boot, 1, 2, 1, 9);
        entry(boot, 2, 0, 1, 10);
        entry(boot, 3, 4, 1, 11);
        entry(boot, 4, 0, 0, 11);
        entry(boot, 5, 5, 1, 15);
        entry(boot, 6, 1, 0, 18);
        entry(boot, 7, 6, 0, 20);
        entry(boot, 8, 7, 0, 20);
        entry(boot, 9, 3, 1, 29);
        entry(boot, 10, 0, 1, 29);
        Check.same("logSize()", 11, boot.logSize());
        Check.same("logEntry(11, 0)", NONE, boot.logEntry(11, 0));
        int[] counts = {4, 1, 1, 1, 1, 1, 1, 1};
        for (int event = 0; event < 8; event++) {
            Check.same("eventCount(" + event + ")", counts[event], boot.eventCount(event));
        }
    }

    private static void longLog() {
        TwinBoot boot = Check.device(TEXT);
        boot.boot();
        for (int i = 0; i < 39; i++) {
            boot.moveJournal();
        }
        Check.same("logSize() of 40 events", 40, boot.logSize());
        entry(boot, 0, 0, 0, 0);
        boot.moveJournal();
        Check.same("logSize() of 41 events", 40, boot.logSize());
        entry(boot, 0, 5, 1, 3);
        entry(boot, 39, 5, 0, 120);
        Check.same("logEntry(40, 0)", NONE, boot.logEntry(40, 0));
        for (int i = 0; i < 60; i++) {
            boot.boot();
        }
        entry(boot, 0, 0, 0, 120);
        Check.same("eventCount(0) beyond the log", 61, boot.eventCount(0));
        Check.same("eventCount(5) beyond the log", 40, boot.eventCount(5));
    }

    private static void wrongArguments() {
        TwinBoot boot = Check.device(TEXT);
        boot.boot();
        Check.same("logEntry(-1, 0)", NONE, boot.logEntry(-1, 0));
        Check.same("logEntry(MAX, 0)", NONE, boot.logEntry(Integer.MAX_VALUE, 0));
        Check.same("logEntry(MIN, 0)", NONE, boot.logEntry(Integer.MIN_VALUE, 0));
        Check.badArgument("logEntry(0, -1)", () -> boot.logEntry(0, -1));
        Check.badArgument("logEntry(0, 3)", () -> boot.logEntry(0, 3));
        Check.badArgument("logEntry(99, 3)", () -> boot.logEntry(99, 3));
        Check.badArgument("eventCount(-1)", () -> boot.eventCount(-1));
        Check.badArgument("eventCount(8)", () -> boot.eventCount(8));
        Check.badArgument("saveSnapshot(-1)", () -> boot.saveSnapshot(-1));
        Check.badArgument("saveSnapshot(2)", () -> boot.saveSnapshot(2));
        Check.badArgument("restoreSnapshot(-1)", () -> boot.restoreSnapshot(-1));
        Check.badArgument("restoreSnapshot(2)", () -> boot.restoreSnapshot(2));
    }

    private static void snapshots() {
        TwinBoot boot = Check.device(TEXT);
        Check.same("restoreSnapshot(0) of nothing", NONE, boot.restoreSnapshot(0));
        boot.boot();
        boot.moveJournal();
        Check.same("saveSnapshot(1)", 3, boot.saveSnapshot(1));
        boot.moveJournal();
        Check.same("saveSnapshot(0)", 6, boot.saveSnapshot(0));
        boot.moveJournal();
        Check.same("restoreSnapshot(1)", 3, boot.restoreSnapshot(1));
        Check.same("generation() of snapshot 1", 1, boot.generation());
        boot.moveJournal();
        boot.moveJournal();
        Check.same("restoreSnapshot(0)", 6, boot.restoreSnapshot(0));
        Check.same("generation() of snapshot 0", 2, boot.generation());
        Check.same("restoreSnapshot(1) again", 3, boot.restoreSnapshot(1));
        Check.same("generation() of snapshot 1 again", 1, boot.generation());
        boot.mirror();
        boot.saveSnapshot(1);
        boot.mirror();
        Check.same("restoreSnapshot(1) of a later one", 13, boot.restoreSnapshot(1));
    }

    private static void snapshotsContainTheLog() {
        TwinBoot boot = Check.device(TEXT);
        boot.boot();
        Check.stage(boot, 7);
        boot.update(3);
        boot.boot();
        boot.saveSnapshot(0);
        Check.load(boot, "flash 16 4 12");
        for (int i = 0; i < 5; i++) {
            boot.boot();
        }
        boot.restoreSnapshot(0);
        entry(boot, 0, 0, 0, 0);
        entry(boot, 1, 2, 1, 9);
        entry(boot, 2, 0, 1, 10);
        boot.boot();
        entry(boot, 3, 4, 1, 11);
        entry(boot, 4, 0, 0, 11);
    }

    private static void snapshotsContainEverything() {
        TwinBoot boot = Check.device("flash 24 6 14;tries 2;life 1;floor 2;good 0;image 0 3 4 5");
        boot.boot();
        Check.stage(boot, 1, 2, 3);
        boot.update(5);
        Check.stage(boot, 8, 9);
        boot.update(6);
        Check.stage(boot, 8, 9);
        boot.setPower(50);
        boot.append(65);
        boot.saveSnapshot(0);
        Check.same("load() of another text", -100, boot.load());
        Check.load(boot, "flash 8 4 12");
        Check.stage(boot, 1, 1);
        boot.boot();
        Check.load(boot, "flash 8");
        boot.append(66);
        Check.same("restoreSnapshot(0)", 4 + 3 + 3 + 1 + 4 + 2 + 3 + 1, boot.restoreSnapshot(0));
        int[] settings = {24, 6, 14, 2, 2, 1};
        for (int what = 0; what < settings.length; what++) {
            Check.same("restored: setting(" + what + ")", settings[what], boot.setting(what));
        }
        Check.same("restored: staged(0)", 8, boot.staged(0));
        Check.same("restored: power()", 50, boot.power());
        Check.same("restored: running()", 0, boot.running());
        Check.same("restored: state()", 1, boot.state());
        Check.same("restored: operations()", 21, boot.operations());
        Check.same("restored: word(0, 3)", 4, boot.word(0, 3));
        Check.same("restored: word(1, 4)", 9 & 65534, boot.word(1, 4));
        Check.same("restored: wear(1, 3)", 2, boot.wear(1, 3));
        Check.same("restored: wornOut(1)", 15, boot.wornOut(1));
        Check.same("restored: recordCount()", 4, boot.recordCount());
        Check.same("restored: journalWord(0, 4)", 12308, boot.journalWord(0, 4));
        Check.same("restored: logSize()", 3, boot.logSize());
        Check.same("restored: logEntry(2, 2)", 21, boot.logEntry(2, 2));
        Check.same("restored: eventCount(2)", 2, boot.eventCount(2));
        Check.same("restored: eventCount(7)", 0, boot.eventCount(7));
        Check.same("not restored: loadError()", 1, boot.loadError());
        Check.same("not restored: append(0)", 1, boot.append(0));
        Check.same("saveSnapshot(0) behind it", 21, boot.saveSnapshot(0));
    }
}
