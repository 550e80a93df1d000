/** What the tests of edges share: devices brought to the state that a sentence of the document names. */
final class Devices {
    static final int NONE = TwinBoot.NONE;
    static final String PLAIN = "flash 16 4 12";
    static final String ONE = PLAIN + ";image 0 2 10 20;good 0";
    static final String BOTH = PLAIN + ";image 0 2 10 20;image 1 3 30;good 0";

    static final int FLOOR = 1;
    static final int GOOD = 2;
    static final int NEW = 3;
    static final int TRY = 4;
    static final int BAD = 5;
    static final int HEAD = 6;

    private Devices() {
    }

    static int record(int kind, int value) {
        return 4096 * kind + 16 * value + (kind + value / 16 + value % 16) % 16;
    }

    /** Makes an erased journal word what is wanted. */
    static void put(TwinBoot boot, int page, int index, int word) {
        Check.same("the journal word before it is put", 65535, boot.journalWord(page, index));
        boot.damageJournal(page, index, 65535 - word);
    }

    /** Puts records, each told as 1000 * kind + value, to the first free words of page 0. */
    static void putAll(TwinBoot boot, int... records) {
        int free = boot.setting(2) - boot.freeWords();
        for (int k = 0; k < records.length; k++) {
            put(boot, 0, free + k, record(records[k] / 1000, records[k] % 1000));
        }
    }

    /** Spoils the free words of page 0 until so many are left. */
    static void fillUpTo(TwinBoot boot, int left) {
        boot.damageJournal(0, boot.setting(2) - 1 - left, 1);
        Check.same("freeWords() of a page that is filled", left, boot.freeWords());
    }

    /** Makes words of an erased slot what is wanted, from word 0 on. */
    static void lay(TwinBoot boot, int slot, int... words) {
        for (int index = 0; index < words.length; index++) {
            boot.damage(slot, index, 65535 - words[index]);
        }
    }

    static TwinBoot running(String text, int... staged) {
        TwinBoot boot = Check.device(text);
        boot.boot();
        Check.stage(boot, staged);
        return boot;
    }

    /** A device that waits for recovery. */
    static TwinBoot waiting(String text, int... staged) {
        TwinBoot boot = running(text, staged);
        Check.same("state() of a waiting device", 2, boot.state());
        return boot;
    }

    /** A device whose slot 0 runs and is the good one, and whose slot 1 is new. */
    static TwinBoot pending(String text, int version) {
        TwinBoot boot = running(text, 7);
        Check.same("update(" + version + ")", 9, boot.update(version));
        return boot;
    }

    static void words(TwinBoot boot, int slot, int from, int... due) {
        for (int i = 0; i < due.length; i++) {
            Check.same("word(" + slot + ", " + (from + i) + ")", due[i], boot.word(slot, from + i));
        }
    }

    static void journal(TwinBoot boot, int page, int from, int... due) {
        for (int i = 0; i < due.length; i++) {
            Check.same("journalWord(" + page + ", " + (from + i) + ")", due[i], boot.journalWord(page, from + i));
        }
    }

    static void told(TwinBoot boot, int floor, int good, int fresh, int tries, int bad) {
        int[] due = {floor, good, fresh, tries, bad};
        for (int what = 0; what < due.length; what++) {
            Check.same("told(" + what + ")", due[what], boot.told(what));
        }
    }

    /** The latest entry of the log. */
    static void latest(TwinBoot boot, int event, int number, int time) {
        int index = boot.logSize() - 1;
        Check.same("the event of the latest entry", event, boot.logEntry(index, 0));
        Check.same("the number of the latest entry", number, boot.logEntry(index, 1));
        Check.same("the time of the latest entry", time, boot.logEntry(index, 2));
    }

    /** All that calls can tell but loadError() and the snapshots; some 150 calls for a small device. */
    static String everything(TwinBoot boot) {
        StringBuilder all = new StringBuilder();
        for (int what = 0; what <= 5; what++) {
            add(all, boot.setting(what));
        }
        for (int row = 0; row <= 1; row++) {
            for (int i = 0; i < boot.setting(0); i++) {
                add(all, boot.word(row, i));
            }
            for (int i = 0; i < boot.setting(2); i++) {
                add(all, boot.journalWord(row, i));
            }
            for (int page = 0; page < boot.setting(0) / boot.setting(1); page++) {
                add(all, boot.wear(row, page));
            }
            add(all, boot.wear(2, row));
        }
        for (int i = 0; i < boot.setting(4); i++) {
            add(all, boot.staged(i));
        }
        for (int i = 0; i < boot.logSize(); i++) {
            add(all, boot.logEntry(i, 0));
            add(all, boot.logEntry(i, 1));
            add(all, boot.logEntry(i, 2));
        }
        for (int event = 0; event <= 7; event++) {
            add(all, boot.eventCount(event));
        }
        add(all, boot.power());
        add(all, boot.running());
        add(all, boot.state());
        add(all, boot.operations());
        add(all, boot.append(0));
        return all.toString();
    }

    private static void add(StringBuilder all, int number) {
        all.append(number).append(' ');
    }

    /** A call that is refused, by an answer that is due or by an exception, must change nothing. */
    static void refuses(TwinBoot boot, String call, long due, java.util.function.LongSupplier made) {
        String before = everything(boot);
        Check.same(call, due, made.getAsLong());
        Check.same("the device behind " + call, before, everything(boot));
    }

    static void throwsBadArgument(TwinBoot boot, String call, Check.Call made) {
        String before = everything(boot);
        Check.badArgument(call, made);
        Check.same("the device behind " + call, before, everything(boot));
    }

    static void throwsBadIndex(TwinBoot boot, String call, Check.Call made) {
        String before = everything(boot);
        Check.badIndex(call, made);
        Check.same("the device behind " + call, before, everything(boot));
    }
}
