/** Section 3 and promises 36 to 42: a test of its own for each sentence that names a boundary case. */
public final class EdgesOfJournalTest {
    private static final int NONE = TwinBoot.NONE;
    private static final int CUT = TwinBoot.CUT;
    private static final String PLAIN = Devices.PLAIN;
    private static final String ONE = Devices.ONE;
    private static final int[] FAR = {Integer.MIN_VALUE, Integer.MAX_VALUE};

    public static void main(String[] args) {
        rightRecords();
        activePages();
        recordsAndFreeWords();
        stateOfRecords();
        appendedRecords();
        movedRecords();
        formattedJournals();
        slotsThatCanBeBooted();
        promisesOfPages();
        promisesOfRecords();
        Check.end();
    }

    // ---- section 3: right records

    /** Tells whether a word is counted as a record if it stands in word 1, or as spoiled. */
    private static void right(boolean due, int word) {
        TwinBoot boot = new TwinBoot();
        Devices.put(boot, 0, 1, word);
        Check.same("recordCount() of the word " + word, due ? 1 : 0, boot.recordCount());
        Check.same("spoiled() of the word " + word, due ? 0 : 1, boot.spoiled());
    }

    private static void rightRecords() {
        Check.edge("3: its kind is 1 to 6", () -> {
            right(false, Devices.record(0, 1));
            right(true, Devices.record(1, 1));
            right(true, Devices.record(5, 1));
            right(false, Devices.record(7, 1));
            right(false, Devices.record(8, 0));
            right(false, Devices.record(15, 1));
            right(false, 0);
        });
        Check.edge("3: its check is right", () -> {
            int word = Devices.record(1, 20);
            right(true, word);
            right(false, word + 1);
            right(false, word - 1);
            for (int check = 0; check < 16; check++) {
                int other = 4096 + 16 * 20 + check;
                right(other == word, other);
            }
        });
        Check.edge("3: check is modulo 16", () -> {
            // 1 + 14 + 0 is 15, 1 + 14 + 1 is 16, 1 + 15 + 15 is 31
            right(true, 4096 + 16 * 224 + 15);
            right(true, 4096 + 16 * 225);
            right(true, 4096 + 16 * 255 + 15);
            right(true, 4096 + 16 * 15);
        });
        Check.edge("3: for the kinds 2 to 5, its value is 0 or 1", () -> {
            for (int kind = 2; kind <= 5; kind++) {
                right(true, Devices.record(kind, 0));
                right(true, Devices.record(kind, 1));
                right(false, Devices.record(kind, 2));
                right(false, Devices.record(kind, 16));
                right(false, Devices.record(kind, 255));
            }
        });
        Check.edge("3: value is 0 to 255 (for FLOOR any of them)", () -> {
            for (int value : new int[] {0, 1, 2, 15, 16, 127, 128, 254, 255}) {
                right(true, Devices.record(Devices.FLOOR, value));
            }
        });
    }

    // ---- section 3: pages

    /** Page 0 has the generation 0, page 1 the one that is told. */
    private static void active(int due, int generation) {
        TwinBoot boot = new TwinBoot();
        Devices.put(boot, 1, 0, Devices.record(Devices.HEAD, generation));
        Check.same("activePage() of 0 and " + generation, due, boot.activePage());
        Check.same("generation() of 0 and " + generation, due == 1 ? generation : 0, boot.generation());
    }

    /** Page 0 has the generation; word 0 of page 1 is erased, as a move leaves it that is cut behind its erasure. */
    private static TwinBoot withFirst(int generation) {
        TwinBoot boot = Check.device(PLAIN);
        Devices.put(boot, 1, 0, Devices.record(Devices.HEAD, generation - 1));
        Devices.put(boot, 1, 1, Devices.record(Devices.FLOOR, 1));
        boot.damageJournal(0, 0, 65535);
        boot.boot();
        Check.same("moveJournal() to page 0", 0, boot.moveJournal());
        boot.setPower(1);
        Check.same("moveJournal() with a torn FLOOR", CUT, boot.moveJournal());
        boot.setPower(NONE);
        Check.same("generation() of page 0", generation, boot.generation());
        Check.same("journalWord(1, 0)", 65535, boot.journalWord(1, 0));
        return boot;
    }

    private static void activeOf(int due, int first, int second) {
        TwinBoot boot = withFirst(first);
        Devices.put(boot, 1, 0, Devices.record(Devices.HEAD, second));
        Check.same("activePage() of " + first + " and " + second, due, boot.activePage());
    }

    private static void activePages() {
        Check.edge("3: a journal page is right if its word 0 is a right record HEAD", () -> {
            for (int kind = 1; kind <= 5; kind++) {
                TwinBoot boot = new TwinBoot();
                Devices.put(boot, 1, 0, Devices.record(kind, 1));
                Check.same("activePage() with the kind " + kind, 0, boot.activePage());
            }
            TwinBoot boot = new TwinBoot();
            Devices.put(boot, 1, 0, Devices.record(Devices.HEAD, 1) - 1);
            Check.same("activePage() with a wrong check", 0, boot.activePage());
        });
        Check.edge("3: the active page is the right one", () -> {
            TwinBoot boot = new TwinBoot();
            Check.same("activePage() with page 0 alone", 0, boot.activePage());
            Devices.put(boot, 1, 0, Devices.record(Devices.HEAD, 200));
            Check.same("activePage() with both", 0, boot.activePage());
            boot.damageJournal(0, 0, 65535);
            Check.same("activePage() with page 1 alone", 1, boot.activePage());
        });
        Check.edge("3: if none is right, there is none", () -> {
            TwinBoot boot = new TwinBoot();
            boot.damageJournal(0, 0, 2);
            Check.same("activePage()", NONE, boot.activePage());
        });
        Check.edge("3: if both are right, page 1 if the difference is 1 to 127, otherwise page 0", () -> {
            active(0, 0);
            active(1, 1);
            active(1, 2);
            active(1, 127);
            active(0, 128);
            active(0, 129);
            active(0, 255);
        });
        Check.edge("3: the difference is modulo 256 (which is never below 0)", () -> {
            activeOf(1, 255, 0);
            activeOf(1, 255, 126);
            activeOf(0, 255, 127);
            activeOf(0, 255, 254);
            activeOf(0, 255, 255);
            activeOf(1, 200, 71);
            activeOf(0, 200, 72);
            activeOf(0, 200, 199);
            activeOf(1, 200, 201);
        });
    }

    private static void recordsAndFreeWords() {
        Check.edge("3: records are right records behind word 0 and no HEAD; other words are passed over", () -> {
            TwinBoot boot = Check.device(PLAIN + ";floor 3");
            Devices.put(boot, 0, 3, Devices.record(Devices.HEAD, 9));
            Devices.put(boot, 0, 4, Devices.record(Devices.GOOD, 2));
            Devices.put(boot, 0, 11, Devices.record(Devices.GOOD, 1));
            Check.same("recordCount()", 2, boot.recordCount());
            Check.same("generation()", 0, boot.generation());
            Devices.told(boot, 3, 1, NONE, 0, 0);
        });
        Check.edge("3: the free words of a page are those behind its last word that is not erased", () -> {
            TwinBoot boot = new TwinBoot();
            Check.same("freeWords() behind word 0", 11, boot.freeWords());
            boot.damageJournal(0, 5, 1);
            Check.same("freeWords() behind word 5", 6, boot.freeWords());
            boot.damageJournal(0, 2, 1);
            Check.same("freeWords() with erased words between", 6, boot.freeWords());
            boot.damageJournal(0, 10, 32768);
            Check.same("freeWords() behind the last but one", 1, boot.freeWords());
            boot.damageJournal(0, 11, 1);
            Check.same("freeWords() behind the last word", 0, boot.freeWords());
        });
    }

    // ---- section 3: the state

    private static void tells(String what, int[] records, int... due) {
        TwinBoot boot = Check.device("flash 16 4 32");
        Devices.putAll(boot, records);
        Check.same("recordCount() of " + what, records.length, boot.recordCount());
        Devices.told(boot, due[0], due[1], due[2], due[3], due[4]);
    }

    private static int[] of(int... records) {
        return records;
    }

    private static void stateOfRecords() {
        Check.edge("3: from: floor 0, no good slot, no new slot, 0 tries, no slot bad", () -> {
            tells("no records", of(), 0, NONE, NONE, 0, 0);
        });
        Check.edge("3: FLOOR: the floor becomes the greater one of it and the value", () -> {
            tells("a lower floor behind", of(1009, 1008), 9, NONE, NONE, 0, 0);
            tells("a higher floor behind", of(1009, 1010), 10, NONE, NONE, 0, 0);
            tells("the floor 0", of(1000), 0, NONE, NONE, 0, 0);
            tells("the floor 255", of(1255, 1001), 255, NONE, NONE, 0, 0);
        });
        Check.edge("3: GOOD: the slot is the good one and not bad", () -> {
            tells("GOOD of a bad slot", of(5000, 5001, 2000), 0, 0, NONE, 0, 2);
            tells("GOOD of the other slot", of(2000, 5001, 2001), 0, 1, NONE, 0, 0);
        });
        Check.edge("3: GOOD: if it was the new one, there is no new slot and the tries are 0", () -> {
            tells("GOOD of the new slot", of(3001, 4001, 2001), 0, 1, NONE, 0, 0);
            tells("GOOD of another slot", of(3001, 4001, 2000), 0, 0, 1, 1, 0);
        });
        Check.edge("3: NEW: the slot is the new one and not bad; the tries are 0", () -> {
            tells("NEW of a bad slot", of(5000, 5001, 3001), 0, NONE, 1, 0, 1);
            tells("NEW of the new slot", of(3001, 4001, 3001), 0, NONE, 1, 0, 0);
            tells("NEW of the other slot", of(3001, 4001, 3000), 0, NONE, 0, 0, 0);
            tells("NEW of the good slot", of(2001, 3001), 0, 1, 1, 0, 0);
        });
        Check.edge("3: TRY: if the slot is the new one, the tries increase by 1", () -> {
            tells("TRY of the new slot", of(3000, 4000), 0, NONE, 0, 1, 0);
            tells("TRY of another slot", of(3000, 4001), 0, NONE, 0, 0, 0);
            tells("TRY without a new slot", of(4000, 4001), 0, NONE, NONE, 0, 0);
            tells("TRY behind GOOD", of(3000, 2000, 4000), 0, 0, NONE, 0, 0);
            tells("more than three tries", of(3000, 4000, 4000, 4000, 4000, 4000), 0, NONE, 0, 5, 0);
        });
        Check.edge("3: BAD: the slot is bad; if it was the new one, there is no new slot and the tries are 0", () -> {
            tells("BAD of the new slot", of(3001, 4001, 5001), 0, NONE, NONE, 0, 2);
            tells("BAD of another slot", of(3001, 4001, 5000), 0, NONE, 1, 1, 1);
            tells("BAD of both", of(5001, 5000), 0, NONE, NONE, 0, 3);
            tells("BAD again", of(5001, 5001), 0, NONE, NONE, 0, 2);
        });
        Check.edge("3: BAD: if it was the good one, there is no good slot", () -> {
            tells("BAD of the good slot", of(2000, 5000), 0, NONE, NONE, 0, 1);
            tells("BAD of another than the good slot", of(2000, 5001), 0, 0, NONE, 0, 2);
            tells("BAD of the good and new slot", of(2000, 3000, 4000, 5000), 0, NONE, NONE, 0, 1);
        });
    }

    // ---- section 3: appending, moving and formatting

    private static void appendedRecords() {
        Check.edge("3: a record is appended by writing it to the first free word of the active page", () -> {
            TwinBoot boot = Devices.running(ONE);
            boot.damageJournal(0, 6, 1);
            boot.mirror();
            Devices.journal(boot, 0, 2, 65535, 65535, 65535, 65535, 65534, 8194, 65535);
        });
        Check.edge("3: the last free word is used before the journal is moved", () -> {
            TwinBoot boot = Devices.running(ONE);
            Devices.fillUpTo(boot, 1);
            Check.same("mirror() with one free word", 4 + 2 + 3 + 1, boot.mirror());
            Check.same("activePage()", 0, boot.activePage());
            Check.same("journalWord(0, 11)", 8194, boot.journalWord(0, 11));
            Check.same("eventCount(5)", 0, boot.eventCount(5));
        });
        Check.edge("3: if there is none, the journal is moved first", () -> {
            TwinBoot boot = Devices.running(ONE);
            Devices.fillUpTo(boot, 0);
            Check.same("mirror() with no free word", 4 + 2 + 3 + 3 + 1, boot.mirror());
            Check.same("activePage()", 1, boot.activePage());
            Devices.journal(boot, 1, 0, Devices.record(Devices.HEAD, 1), 8194, 8194, 65535);
        });
    }

    /** The records are put behind the boot, which could append one itself, and moved by hand. */
    private static void moved(String text, int[] records, int... due) {
        TwinBoot boot = Check.device(text);
        boot.boot();
        Devices.putAll(boot, records);
        Check.same("moveJournal()", 1, boot.moveJournal());
        Check.same("journalWord(1, 0)", Devices.record(Devices.HEAD, 1), boot.journalWord(1, 0));
        for (int k = 0; k < due.length; k++) {
            Devices.journal(boot, 1, 1 + k, Devices.record(due[k] / 1000, due[k] % 1000));
        }
        Devices.journal(boot, 1, 1 + due.length, 65535);
        Check.same("operations()", 1 + due.length + 1, boot.operations());
    }

    private static void movedRecords() {
        Check.edge("3: FLOOR if the floor is greater than 0", () -> {
            moved(PLAIN, of());
            moved(PLAIN, of(1000));
            moved(PLAIN, of(1001), 1001);
            moved(PLAIN, of(1255, 1254), 1255);
        });
        Check.edge("3: GOOD if there is a good slot", () -> {
            moved(PLAIN, of(2000), 2000);
            moved(PLAIN, of(2000, 2001), 2001);
            moved(PLAIN, of(2000, 5000, 2000), 2000);
        });
        Check.edge("3: BAD for each slot that is bad, in their order", () -> {
            moved(PLAIN, of(5000), 5000);
            moved(PLAIN, of(5001), 5001);
            moved(PLAIN, of(5001, 5000), 5000, 5001);
            moved(PLAIN, of(5001, 5000, 2001), 2001, 5000);
        });
        Check.edge("3: NEW if there is a new slot, and TRY for the new slot as often as there are tries", () -> {
            moved(PLAIN, of(3000), 3000);
            moved(PLAIN, of(3001, 4001), 3001, 4001);
            moved(PLAIN, of(3001, 4001, 4000, 4001), 3001, 4001, 4001);
        });
        Check.edge("3: but at most 3 times", () -> {
            moved(PLAIN, of(3001, 4001, 4001, 4001), 3001, 4001, 4001, 4001);
            moved(PLAIN, of(3001, 4001, 4001, 4001, 4001), 3001, 4001, 4001, 4001);
            moved("flash 16 4 32", of(3001, 4001, 4001, 4001, 4001, 4001, 4001), 3001, 4001, 4001, 4001);
        });
        Check.edge("3: these records: FLOOR, GOOD, BAD, NEW, TRY", () -> {
            moved(PLAIN, of(5000, 3001, 4001, 4001, 4001, 1009), 1009, 5000, 3001, 4001, 4001, 4001);
            moved(PLAIN, of(3001, 4001, 2000, 1009), 1009, 2000, 3001, 4001);
            moved(PLAIN, of(5001, 3000, 4000, 2000, 1009, 3000, 4000), 1009, 2000, 5001, 3000, 4000);
        });
        Check.edge("3: words that are no records are not moved", () -> {
            TwinBoot boot = Devices.running(ONE);
            boot.damageJournal(0, 4, 77);
            Devices.put(boot, 0, 5, Devices.record(Devices.HEAD, 9));
            boot.moveJournal();
            Devices.journal(boot, 1, 0, Devices.record(Devices.HEAD, 1), 8194, 65535);
            Check.same("spoiled()", 0, boot.spoiled());
        });
        Check.edge("3: HEAD with the next generation (modulo 256) is written to word 0", () -> {
            TwinBoot boot = Check.device(PLAIN);
            Devices.put(boot, 1, 0, Devices.record(Devices.HEAD, 254));
            boot.damageJournal(0, 0, 65535);
            boot.boot();
            Check.same("moveJournal() to 255", 0, boot.moveJournal());
            Check.same("generation()", 255, boot.generation());
            Check.same("moveJournal() to 0", 1, boot.moveJournal());
            Check.same("generation() behind 255", 0, boot.generation());
            Check.same("moveJournal() to 1", 0, boot.moveJournal());
            Check.same("generation() behind 0", 1, boot.generation());
        });
        Check.edge("3: first the other page is erased, HEAD comes last", EdgesOfJournalTest::movesAreCut);
    }

    private static void movesAreCut() {
        for (int power = 0; power <= 3; power++) {
            TwinBoot boot = Devices.running(ONE + ";floor 2");
            boot.moveJournal();
            boot.moveJournal();
            boot.setPower(power);
            Check.same("moveJournal() with power " + power, CUT, boot.moveJournal());
            Check.same("activePage()", 0, boot.activePage());
            int head = power < 3 ? 65535 : Devices.record(Devices.HEAD, 3) | 65280;
            int floor = power < 1 ? 65535 : power == 1 ? 4096 + 32 + 3 | 65280 : 4096 + 32 + 3;
            int good = power < 2 ? 65535 : power == 2 ? 8194 | 65280 : 8194;
            Devices.journal(boot, 1, 0, head, floor, good, 65535);
            Check.same("eventCount(5)", 2, boot.eventCount(5));
        }
    }

    private static void formattedJournals() {
        Check.edge("3: if there is no active page, the journal is formatted first", () -> {
            TwinBoot boot = Devices.waiting(PLAIN, 7);
            boot.damageJournal(0, 0, 65535);
            boot.damageJournal(0, 11, 65535);
            boot.damageJournal(1, 3, 65535);
            Check.same("recover(1, 1)", 4 + 1 + 3 + 2 + 1, boot.recover(1, 1));
            Devices.journal(boot, 0, 0, 24582, 8211, 65535);
            Check.same("journalWord(0, 11)", 65535, boot.journalWord(0, 11));
            Devices.journal(boot, 1, 0, 65535, 65535, 65535, 0, 65535);
            Check.same("eventCount(6)", 1, boot.eventCount(6));
        });
        Check.edge("3: page 0 is erased, and HEAD with the generation 0 is written to its word 0", () -> {
            int[] due = {65535, Devices.record(Devices.HEAD, 0) | 65280, 24582};
            for (int power = 0; power <= 2; power++) {
                TwinBoot boot = new TwinBoot();
                boot.damageJournal(0, 0, 65535);
                boot.damageJournal(0, 6, 65535);
                boot.setPower(power);
                Check.same("boot() with power " + power, power < 2 ? CUT : NONE, boot.boot());
                Check.same("journalWord(0, 0)", due[power], boot.journalWord(0, 0));
                Check.same("journalWord(0, 6)", power == 0 ? 0 : 65535, boot.journalWord(0, 6));
                Check.same("activePage()", power < 2 ? NONE : 0, boot.activePage());
                Check.same("wear(2, 0)", 1, boot.wear(2, 0));
                Check.same("wear(2, 1)", 0, boot.wear(2, 1));
            }
        });
    }

    private static void slotsThatCanBeBooted() {
        Check.edge("3: a slot can be booted if it is whole", () -> {
            TwinBoot boot = Check.device(ONE);
            boot.damage(0, 4, 4);
            Check.same("boot() of a slot that is not whole", NONE, boot.boot());
        });
        Check.edge("3: if its version is at least the floor", () -> {
            Check.same("boot() at the floor", 0, Check.device(ONE + ";floor 2").boot());
            Check.same("boot() below the floor", NONE, Check.device(ONE + ";floor 3").boot());
            Check.same("boot() at the floor 255", 1,
                    Check.device(PLAIN + ";image 0 254 1;image 1 255 1;floor 255").boot());
        });
        Check.edge("3: if it is not bad", () -> {
            TwinBoot boot = Check.device(ONE);
            Devices.putAll(boot, 5000);
            Check.same("boot() of a bad slot", NONE, boot.boot());
            Devices.putAll(boot, 2000);
            Check.same("boot() of a slot that is good again", 0, boot.boot());
        });
    }

    // ---- promises 36 to 42

    private static TwinBoot withoutPage() {
        TwinBoot boot = Check.device(Devices.BOTH + ";floor 2");
        Devices.putAll(boot, 5001, 3000, 4000, 6001);
        boot.damageJournal(0, 0, 65535);
        return boot;
    }

    private static void promisesOfPages() {
        Check.edge("Promise 36: NONE if there is none", () -> {
            Check.same("activePage()", NONE, withoutPage().activePage());
        });
        Check.edge("Promise 37: 0 to 255", () -> {
            Check.same("generation()", 0, new TwinBoot().generation());
            Check.same("generation()", 255, withFirst(255).generation());
        });
        Check.edge("Promise 37: NONE if there is none", () -> {
            Check.same("generation()", NONE, withoutPage().generation());
        });
        Check.edge("Promise 38: 0 if there is none", () -> {
            Check.same("freeWords()", 0, withoutPage().freeWords());
        });
        Check.edge("Promise 38: how many free words the active page has", () -> {
            Check.same("freeWords() of HEAD alone", 31, Check.device("flash 8 4 32").freeWords());
            TwinBoot boot = Check.device(ONE);
            Check.same("freeWords() behind GOOD", 10, boot.freeWords());
            Devices.fillUpTo(boot, 0);
            Devices.put(boot, 1, 5, 0);
            Check.same("freeWords() of a full page", 0, boot.freeWords());
        });
        Check.edge("Promise 39: 0 if there is none", () -> {
            Check.same("recordCount()", 0, withoutPage().recordCount());
        });
        Check.edge("Promise 39: the number of records of the active page", () -> {
            TwinBoot boot = Check.device(PLAIN);
            Check.same("recordCount() of HEAD alone", 0, boot.recordCount());
            Devices.put(boot, 1, 1, 8194);
            Check.same("recordCount() with a record on the other page", 0, boot.recordCount());
            Devices.putAll(boot, 1001, 1002, 1003, 1004, 1005, 1006, 1007, 1008, 1009, 1010, 1011);
            Check.same("recordCount() of a full page", 11, boot.recordCount());
        });
    }

    private static void promisesOfRecords() {
        Check.edge("Promise 40: the index of the record, 0 for the first one; the index of its word", () -> {
            TwinBoot boot = Check.device(PLAIN + ";floor 255");
            Devices.put(boot, 0, 4, 77);
            Devices.put(boot, 0, 11, Devices.record(Devices.BAD, 1));
            int[][] due = {{1, 255, 1}, {5, 1, 11}};
            for (int what = 0; what <= 2; what++) {
                Check.same("record(0, " + what + ")", due[0][what], boot.record(0, what));
                Check.same("record(1, " + what + ")", due[1][what], boot.record(1, what));
            }
        });
        Check.edge("Promise 40: the records of page 1, when it is the active one", () -> {
            TwinBoot boot = Devices.running(ONE + ";floor 2");
            boot.moveJournal();
            boot.damageJournal(0, 1, 65535);
            int[][] due = {{1, 2, 1}, {2, 0, 2}};
            for (int what = 0; what <= 2; what++) {
                Check.same("record(0, " + what + ")", due[0][what], boot.record(0, what));
                Check.same("record(1, " + what + ")", due[1][what], boot.record(1, what));
                Check.same("record(2, " + what + ")", NONE, boot.record(2, what));
            }
        });
        Check.edge("Promise 40: NONE if there is no such record", () -> {
            TwinBoot boot = Check.device(PLAIN + ";floor 3;good 1");
            for (int index : new int[] {-1, 2, 3, 11, 12, 64, FAR[0], FAR[1]}) {
                for (int what = 0; what <= 2; what++) {
                    Check.same("record(" + index + ", " + what + ")", NONE, boot.record(index, what));
                }
            }
            Check.same("record(0, 0) of no records", NONE, new TwinBoot().record(0, 0));
            Check.same("record(0, 0) without an active page", NONE, withoutPage().record(0, 0));
        });
        Check.edge("Promise 40: throws IllegalArgumentException if what is out of range", () -> {
            TwinBoot boot = Check.device(ONE);
            for (int what : new int[] {-1, 3, FAR[0], FAR[1]}) {
                Check.badArgument("record(0, " + what + ")", () -> boot.record(0, what));
                Check.badArgument("record(99, " + what + ")", () -> boot.record(99, what));
                Check.badArgument("record(-1, " + what + ") of an empty page", () -> withoutPage().record(-1, what));
            }
        });
        Check.edge("Promise 41: words behind word 0 that are not erased and no right records", () -> {
            TwinBoot boot = Check.device(ONE);
            Check.same("spoiled() of none", 0, boot.spoiled());
            boot.damageJournal(0, 11, 1);
            Check.same("spoiled() of the last word", 1, boot.spoiled());
            boot.damageJournal(1, 3, 1);
            Check.same("spoiled() with a word of the other page", 1, boot.spoiled());
            for (int index = 1; index < 12; index++) {
                boot.damageJournal(0, index, 65535);
            }
            Check.same("spoiled() of all words", 11, boot.spoiled());
        });
        Check.edge("Promise 41: a HEAD behind word 0 counts, too", () -> {
            TwinBoot boot = new TwinBoot();
            Devices.putAll(boot, 6000, 6255);
            Check.same("spoiled()", 2, boot.spoiled());
        });
        Check.edge("Promise 41: 0 if there is none", () -> {
            Check.same("spoiled()", 0, withoutPage().spoiled());
        });
        Check.edge("Promise 42: NONE if there is none", () -> {
            Devices.told(new TwinBoot(), 0, NONE, NONE, 0, 0);
        });
        Check.edge("Promise 42: the state without an active page", () -> {
            Devices.told(withoutPage(), 0, NONE, NONE, 0, 0);
            TwinBoot boot = Check.device(ONE + ";floor 2");
            Devices.putAll(boot, 5001, 3000, 4000);
            Devices.told(boot, 2, 0, 0, 1, 2);
            boot.damageJournal(0, 0, 65535);
            Devices.told(boot, 0, NONE, NONE, 0, 0);
        });
        Check.edge("Promise 42: the records that are there now tell the state", () -> {
            TwinBoot boot = Check.device(ONE + ";floor 2");
            Devices.putAll(boot, 5001, 3000, 4000);
            Devices.told(boot, 2, 0, 0, 1, 2);
            boot.damageJournal(0, 3, 65535);
            Devices.told(boot, 2, 0, 0, 1, 0);
            boot.damageJournal(0, 4, 65535);
            Devices.told(boot, 2, 0, NONE, 0, 0);
            boot.damageJournal(0, 1, 65535);
            boot.damageJournal(0, 2, 65535);
            Devices.told(boot, 0, NONE, NONE, 0, 0);
        });
        Check.edge("Promise 42: the bad slots, as the sum of 2^k", () -> {
            TwinBoot boot = new TwinBoot();
            Check.same("told(4) of none", 0, boot.told(4));
            Devices.putAll(boot, 5000);
            Check.same("told(4) of slot 0", 1, boot.told(4));
            Devices.putAll(boot, 5001);
            Check.same("told(4) of both", 3, boot.told(4));
            Devices.putAll(boot, 2000);
            Check.same("told(4) of slot 1", 2, boot.told(4));
        });
        Check.edge("Promise 42: throws IllegalArgumentException if what is out of range", () -> {
            TwinBoot boot = Check.device(ONE);
            for (int what : new int[] {-1, 5, FAR[0], FAR[1]}) {
                Check.badArgument("told(" + what + ")", () -> boot.told(what));
            }
        });
    }
}
