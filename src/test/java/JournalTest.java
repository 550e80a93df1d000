/** Promises 36 to 42: pages, records and what they tell. */
public final class JournalTest {
    private static final int NONE = TwinBoot.NONE;

    public static void main(String[] args) {
        activePageAndGeneration();
        generationsFarApart();
        freeWords();
        records();
        spoiled();
        rightRecords();
        told();
        tellsByOrder();
        Check.end();
    }

    private static int recordWord(int kind, int value) {
        return 4096 * kind + 16 * value + (kind + value / 16 + value % 16) % 16;
    }

    /** Makes an erased word what is wanted. */
    private static void put(TwinBoot boot, int page, int index, int word) {
        boot.damageJournal(page, index, 65535 - word);
    }

    private static void activePageAndGeneration() {
        TwinBoot boot = Check.device("flash 16 4 12;floor 3");
        Check.same("activePage()", 0, boot.activePage());
        Check.same("generation()", 0, boot.generation());
        put(boot, 1, 0, recordWord(6, 1));
        Check.same("activePage() with the next generation on page 1", 1, boot.activePage());
        Check.same("generation() of page 1", 1, boot.generation());
        Check.same("told(0) of page 1", 0, boot.told(0));
        boot.damageJournal(0, 0, 65535);
        Check.same("activePage() with page 1 alone", 1, boot.activePage());
        boot.damageJournal(1, 0, 1);
        Check.same("activePage() without a right page", NONE, boot.activePage());
        Check.same("generation() without a right page", NONE, boot.generation());
        TwinBoot other = Check.device("flash 16 4 12");
        put(other, 1, 0, recordWord(1, 1));
        Check.same("activePage() with another record in word 0", 0, other.activePage());
    }

    private static void generationsFarApart() {
        int[] generations = {0, 1, 2, 127, 128, 129, 255};
        int[] due = {0, 1, 1, 1, 0, 0, 0};
        for (int i = 0; i < due.length; i++) {
            TwinBoot boot = new TwinBoot();
            put(boot, 1, 0, recordWord(6, generations[i]));
            Check.same("activePage() with generations 0 and " + generations[i], due[i], boot.activePage());
            Check.same("generation() of 0 and " + generations[i], due[i] * generations[i], boot.generation());
        }
        TwinBoot boot = new TwinBoot();
        boot.boot();
        for (int i = 0; i < 256; i++) {
            boot.moveJournal();
        }
        Check.same("generation() behind 256 moves", 0, boot.generation());
        Check.same("activePage() behind 256 moves", 0, boot.activePage());
        Check.same("the generation before it", recordWord(6, 255), boot.journalWord(1, 0));
    }

    private static void freeWords() {
        TwinBoot boot = Check.device("flash 16 4 13;floor 3");
        Check.same("freeWords()", 11, boot.freeWords());
        Check.same("recordsLeft()", 11, boot.recordsLeft());
        boot.damageJournal(0, 9, 1);
        Check.same("freeWords() behind a damaged word", 3, boot.freeWords());
        boot.damageJournal(0, 12, 1);
        Check.same("freeWords() behind the last word", 0, boot.freeWords());
        Check.same("recordsLeft() behind the last word", 0, boot.recordsLeft());
        boot.damageJournal(0, 0, 65535);
        Check.same("freeWords() without an active page", 0, boot.freeWords());
        Check.same("recordsLeft() without an active page", 12, boot.recordsLeft());
        Check.same("freeWords() of a page with HEAD alone", 31, Check.device("flash 16 4 32").freeWords());
    }

    private static void records() {
        TwinBoot boot = Check.device("flash 16 4 12;floor 200;good 1");
        put(boot, 0, 3, recordWord(6, 1));
        put(boot, 0, 4, 12345);
        put(boot, 0, 6, recordWord(5, 0));
        Check.same("recordCount()", 3, boot.recordCount());
        int[][] due = {{1, 200, 1}, {2, 1, 2}, {5, 0, 6}};
        for (int index = 0; index < 3; index++) {
            for (int what = 0; what < 3; what++) {
                Check.same("record(" + index + ", " + what + ")", due[index][what], boot.record(index, what));
            }
        }
        Check.same("record(3, 0)", NONE, boot.record(3, 0));
        Check.same("record(-1, 0)", NONE, boot.record(-1, 0));
        Check.same("record(MAX, 2)", NONE, boot.record(Integer.MAX_VALUE, 2));
        Check.badArgument("record(0, -1)", () -> boot.record(0, -1));
        Check.badArgument("record(0, 3)", () -> boot.record(0, 3));
        Check.badArgument("record(99, 3)", () -> boot.record(99, 3));
        boot.damageJournal(0, 0, 65535);
        Check.same("recordCount() without an active page", 0, boot.recordCount());
        Check.same("record(0, 0) without an active page", NONE, boot.record(0, 0));
    }

    private static void spoiled() {
        TwinBoot boot = Check.device("flash 16 4 12;floor 200;good 1");
        Check.same("spoiled()", 0, boot.spoiled());
        put(boot, 0, 3, recordWord(6, 1));
        Check.same("spoiled() with a HEAD behind word 0", 1, boot.spoiled());
        boot.damageJournal(0, 11, 1);
        Check.same("spoiled() with a word that is no record", 2, boot.spoiled());
        boot.damageJournal(0, 1, 1);
        put(boot, 1, 5, 3);
        Check.same("spoiled() with a damaged record", boot.recordCount() == 1 ? 3 : -99, boot.spoiled());
        boot.damageJournal(0, 0, 65535);
        Check.same("spoiled() without an active page", 0, boot.spoiled());
    }

    /** Every word is put where a record may stand; it is counted by the words of section 3. */
    private static void rightRecords() {
        TwinBoot boot = new TwinBoot();
        for (int word = 0; word < 65536; word++) {
            if (word % 30 == 0) {
                boot = new TwinBoot();
            }
            boot.saveSnapshot(0);
            put(boot, 0, 1, word);
            int kind = word / 4096;
            int value = word / 16 % 256;
            boolean right = kind >= 1 && kind <= 6 && word == recordWord(kind, value);
            boolean named = kind == 1 || kind == 6 || value <= 1;
            boolean record = right && named && kind != 6;
            Check.same("recordCount() of the word " + word, record ? 1 : 0, boot.recordCount());
            Check.same("spoiled() of the word " + word, record || word == 65535 ? 0 : 1, boot.spoiled());
            boot.restoreSnapshot(0);
        }
    }

    private static void state(String what, TwinBoot boot, int... due) {
        for (int k = 0; k < due.length; k++) {
            Check.same(what + ": told(" + k + ")", due[k], boot.told(k));
        }
    }

    private static void told() {
        TwinBoot boot = Check.device("flash 16 4 12");
        state("nothing", boot, 0, NONE, NONE, 0, 0);
        Check.badArgument("told(-1)", () -> boot.told(-1));
        Check.badArgument("told(5)", () -> boot.told(5));
        TwinBoot given = Check.device("flash 16 4 12;floor 9;good 1;image 1 9 1;image 0 9 2");
        state("floor and good", given, 9, 1, NONE, 0, 0);
        given.boot();
        Check.stage(given, 3);
        given.update(10);
        state("an update", given, 9, 1, 0, 0, 0);
        given.boot();
        given.boot();
        state("two tries", given, 9, 1, 0, 2, 0);
        given.boot();
        given.boot();
        state("too many tries", given, 9, 1, NONE, 0, 1);
        Check.stage(given, 3);
        given.update(10);
        state("a new update", given, 9, 1, 0, 0, 0);
        given.boot();
        given.confirm();
        state("a confirmation", given, 10, 0, NONE, 0, 0);
        given.damageJournal(given.activePage(), 0, 65535);
        state("no active page", given, 0, NONE, NONE, 0, 0);
    }

    private static TwinBoot of(int... records) {
        TwinBoot boot = Check.device("flash 16 4 32");
        for (int k = 0; k < records.length; k++) {
            put(boot, 0, 1 + k, recordWord(records[k] / 1000, records[k] % 1000));
        }
        Check.same("recordCount() of what is put", records.length, boot.recordCount());
        return boot;
    }

    private static void tellsByOrder() {
        state("a lower floor behind", of(1009, 1005), 9, NONE, NONE, 0, 0);
        state("a higher floor behind", of(1005, 1255), 255, NONE, NONE, 0, 0);
        state("GOOD of the new slot", of(3001, 4001, 2001), 0, 1, NONE, 0, 0);
        state("GOOD of the other slot", of(3001, 4001, 2000), 0, 0, 1, 1, 0);
        state("GOOD of a bad slot", of(5000, 5001, 2001), 0, 1, NONE, 0, 1);
        state("NEW of a bad slot", of(5000, 5001, 3000), 0, NONE, 0, 0, 2);
        state("NEW again", of(3000, 4000, 4000, 3000), 0, NONE, 0, 0, 0);
        state("NEW of the other slot", of(3000, 4000, 3001), 0, NONE, 1, 0, 0);
        state("TRY of another slot", of(3000, 4001, 4000, 4001), 0, NONE, 0, 1, 0);
        state("TRY without a new slot", of(4000, 3000), 0, NONE, 0, 0, 0);
        state("many tries", of(3000, 4000, 4000, 4000, 4000, 4000), 0, NONE, 0, 5, 0);
        state("BAD of the new slot", of(2000, 3001, 4001, 5001), 0, 0, NONE, 0, 2);
        state("BAD of the good slot", of(2000, 3001, 4001, 5000), 0, NONE, 1, 1, 1);
        state("the good slot is new, too", of(2000, 3000, 4000), 0, 0, 0, 1, 0);
        state("BAD of both", of(2000, 3000, 5000), 0, NONE, NONE, 0, 1);
        TwinBoot many = of(2000, 3001, 4001, 4001, 4001, 4001, 4001, 5000, 1007);
        many.boot();
        Check.same("the boot behind too many tries", 3, many.told(4));
        TwinBoot moved = of(3001, 4001, 4001, 4001, 4001, 5000);
        Check.load(moved, "flash 16 4 32;image 1 5 1");
        for (int word : new int[] {3001, 4001, 4001, 4001, 4001, 5000, 1002}) {
            put(moved, 0, 32 - moved.freeWords(), recordWord(word / 1000, word % 1000));
        }
        moved.saveSnapshot(0);
        Check.same("boot() with too many tries", NONE, moved.boot());
        moved.restoreSnapshot(0);
        Check.same("told(3) before a move", 4, moved.told(3));
        put(moved, 0, 31, 0);
        moved.boot();
        int[] due = {recordWord(6, 1), recordWord(1, 2), recordWord(5, 0), recordWord(3, 1), recordWord(4, 1),
            recordWord(4, 1), recordWord(4, 1), recordWord(5, 1), 65535};
        for (int i = 0; i < due.length; i++) {
            Check.same("moved with too many tries: word " + i, due[i], moved.journalWord(1, i));
        }
    }
}
