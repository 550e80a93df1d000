/** Sections 1 and 2 and promises 21 to 35: a test of its own for each sentence that names a boundary case. */
public final class EdgesOfFlashTest {
    private static final int NONE = TwinBoot.NONE;
    private static final int CUT = TwinBoot.CUT;
    private static final String PLAIN = Devices.PLAIN;
    private static final String ONE = Devices.ONE;
    private static final int[] FAR = {Integer.MIN_VALUE, Integer.MAX_VALUE};

    public static void main(String[] args) {
        writes();
        erasures();
        wearingOut();
        power();
        images();
        promisesOfWords();
        promisesOfWear();
        promisesOfImages();
        promisesOfComparisons();
        promisesOfDamage();
        Check.end();
    }

    // ---- section 1

    /** Slot 0 runs and 7 is staged; all words of slot 1 and of journal page 1 are 0. */
    private static TwinBoot black(String flash) {
        TwinBoot boot = Devices.running(flash + ";image 0 2 10 20;good 0", 7);
        for (int index = 0; index < boot.setting(0); index++) {
            boot.damage(1, index, 65535);
        }
        for (int index = 0; index < boot.setting(2); index++) {
            boot.damageJournal(1, index, 65535);
        }
        return boot;
    }

    /** Rows 0 and 1 are the slots, 2 and 3 the journal pages; words outside of from and end are still 0. */
    private static void area(TwinBoot boot, int row, int count, int from, int end, int due) {
        for (int index = 0; index < count; index++) {
            int word = row < 2 ? boot.word(row, index) : boot.journalWord(row - 2, index);
            Check.same("word " + index + " of row " + row, index >= from && index < end ? due : 0, word);
        }
    }

    private static void writes() {
        Check.edge("1: an erased word is 65535", () -> {
            TwinBoot boot = new TwinBoot();
            for (int index = 0; index < 16; index++) {
                Check.same("word(0, " + index + ")", 65535, boot.word(0, index));
                Check.same("word(1, " + index + ")", 65535, boot.word(1, index));
            }
        });
        Check.edge("1: a write: the word becomes (old word AND value)", () -> {
            TwinBoot boot = Devices.running(ONE + ";life 1", 65535, 1, 0, 65534, 0x8001);
            boot.update(3);
            Check.stage(boot, 65535, 1, 0, 65534, 0x8001);
            boot.update(3);
            Devices.words(boot, 1, 3, 65534, 0, 0, 65534, 0x8000, 65534);
        });
        Check.edge("1: a torn write changes only the lower 8 bits of the word", () -> {
            int[] values = {0x1234, 0, 0xFF, 0xFF00, 0x12FF, 0xFFFE};
            int[] due = {0xFF34, 0xFF00, 0xFFFF, 0xFF00, 0xFFFF, 0xFFFE};
            for (int i = 0; i < values.length; i++) {
                TwinBoot boot = Devices.running(ONE, values[i]);
                boot.setPower(4);
                Check.same("update(3) with a torn word", CUT, boot.update(3));
                Devices.words(boot, 1, 2, 65535, due[i], 65535);
            }
        });
        Check.edge("1: a torn write of a word that is not erased (old word AND (value OR 65280))", () -> {
            TwinBoot boot = Devices.running(PLAIN + ";image 0 2 10;image 1 2 1 2 3 4 5 4660;good 0", 1, 2, 3, 4, 5, 16);
            boot.setPower(2);
            Check.same("thriftyPages()", 1, boot.thriftyPages());
            Check.same("thriftyUpdate(3)", CUT, boot.thriftyUpdate(3));
            Devices.words(boot, 1, 8, 4660 / 256 * 256 + 16, 65535);
        });
    }

    private static void erasures() {
        Check.edge("1: an erasure: all words of the page become 65535, and its wear increases by 1", () -> {
            TwinBoot boot = black("flash 20 5 12");
            boot.setPower(4);
            boot.update(3);
            area(boot, 1, 3, 0, 3, 65535);
            Devices.words(boot, 1, 4, 65535, 65535, 65535, 65535, 65535, 65535, 65535, 65535, 65535, 65535, 65535);
            Devices.words(boot, 1, 15, 65535, 65535, 65535, 65535, 65535);
            Check.same("wear(1, 0)", 1, boot.wear(1, 0));
            Check.same("wear(1, 3)", 1, boot.wear(1, 3));
            Check.same("wear(0, 0)", 0, boot.wear(0, 0));
        });
        Check.edge("1: a torn erasure erases only the first half of the page (its number of words / 2)", () -> {
            int[] pages = {4, 5, 6, 15, 16};
            for (int page : pages) {
                TwinBoot boot = black("flash " + 3 * page + " " + page + " 12");
                boot.setPower(0);
                Check.same("update(3) with a torn erasure", CUT, boot.update(3));
                area(boot, 1, 3 * page, 0, page / 2, 65535);
            }
        });
        Check.edge("1: a torn erasure of a page behind the first", () -> {
            TwinBoot boot = black("flash 20 5 12");
            boot.setPower(3);
            boot.update(3);
            area(boot, 1, 20, 0, 15 + 2, 65535);
        });
        Check.edge("1: a torn erasure, and its wear increases by 1, too", () -> {
            TwinBoot boot = black("flash 20 5 12");
            boot.setPower(1);
            boot.update(3);
            int[] due = {1, 1, 0, 0};
            for (int page = 0; page < 4; page++) {
                Check.same("wear(1, " + page + ")", due[page], boot.wear(1, page));
            }
        });
        Check.edge("1: an erasure of a journal page", () -> {
            TwinBoot boot = black("flash 16 4 13");
            boot.setPower(1);
            Check.same("moveJournal()", CUT, boot.moveJournal());
            Check.same("journalWord(1, 0)", 65535, boot.journalWord(1, 0));
            Check.same("journalWord(1, 12)", 65535, boot.journalWord(1, 12));
            Check.same("wear(2, 1)", 1, boot.wear(2, 1));
            Check.same("wear(2, 0)", 0, boot.wear(2, 0));
        });
        Check.edge("1: a torn erasure of a journal page", () -> {
            for (int journal : new int[] {12, 13, 31, 32}) {
                TwinBoot boot = black("flash 16 4 " + journal);
                boot.setPower(0);
                Check.same("moveJournal()", CUT, boot.moveJournal());
                area(boot, 3, journal, 0, journal / 2, 65535);
                Check.same("wear(2, 1)", 1, boot.wear(2, 1));
            }
        });
    }

    /** Erases slot 1, and leaves what is behind a payload of two words as the erasure made it. */
    private static void mirror(TwinBoot boot, int times) {
        for (int i = 0; i < times; i++) {
            boot.mirror();
        }
    }

    private static void wearingOut() {
        Check.edge("1: if the wear was LIFE or more before an erasure, the words become 65534", () -> {
            for (int life : new int[] {1, 2, 5}) {
                TwinBoot boot = Devices.running(ONE + ";life " + life);
                mirror(boot, life);
                Check.same("word(1, 15) behind LIFE erasures", 65535, boot.word(1, 15));
                mirror(boot, 1);
                Devices.words(boot, 1, 5, 65534, 65534, 65534, 65534, 65534, 65534, 65534, 65534);
                mirror(boot, 1);
                Check.same("word(1, 15) behind more", 65534, boot.word(1, 15));
            }
        });
        Check.edge("1: if LIFE is greater than 0 (a page does not wear out if LIFE is 0)", () -> {
            TwinBoot boot = Devices.running(ONE + ";life 0");
            mirror(boot, 30);
            Devices.words(boot, 1, 5, 65535, 65535, 65535);
            Check.same("wornOut(1)", 0, boot.wornOut(1));
        });
        Check.edge("1: each page wears out by its own wear", () -> {
            TwinBoot boot = Devices.running(ONE + ";life 1");
            boot.setPower(1);
            boot.mirror();
            boot.setPower(NONE);
            boot.boot();
            mirror(boot, 1);
            Devices.words(boot, 1, 5, 65534, 65534, 65534, 65535, 65535);
        });
        Check.edge("1: a torn erasure of a page that is worn out", () -> {
            TwinBoot boot = Devices.running(ONE + ";life 1");
            mirror(boot, 1);
            boot.damage(1, 7, 65535);
            boot.setPower(1);
            boot.mirror();
            Devices.words(boot, 1, 4, 65534, 65534, 65535, 0, 65535);
        });
        Check.edge("1: pages of slots wear out (pages of the journal do not)", () -> {
            TwinBoot boot = Devices.running(ONE + ";life 1");
            for (int i = 0; i < 6; i++) {
                boot.moveJournal();
            }
            Devices.journal(boot, 0, 2, 65535, 65535);
            Devices.journal(boot, 1, 2, 65535, 65535);
            Check.same("wear(2, 1)", 3, boot.wear(2, 1));
        });
    }

    private static void power() {
        Check.edge("1: when an operation is to be done and no power is left, the power is cut", () -> {
            TwinBoot exact = Devices.running(ONE, 7);
            exact.setPower(9);
            Check.same("update(3) with power for it", 9, exact.update(3));
            Check.same("power()", 0, exact.power());
            Check.same("state()", 1, exact.state());
            TwinBoot less = Devices.running(ONE, 7);
            less.setPower(8);
            Check.same("update(3) with power for one operation less", CUT, less.update(3));
            Check.same("power()", 0, less.power());
        });
        Check.edge("1: no power is left, but no operation is to be done", () -> {
            TwinBoot boot = Devices.running(ONE, 7);
            boot.setPower(0);
            Check.same("boot()", 0, boot.boot());
            Check.same("state()", 1, boot.state());
            Check.same("eventCount(1)", 0, boot.eventCount(1));
        });
        Check.edge("1: the power is cut, and the device is off", () -> {
            TwinBoot boot = Devices.running(ONE, 7);
            boot.setPower(0);
            boot.update(3);
            Check.same("state()", 0, boot.state());
            Check.same("running()", NONE, boot.running());
        });
        Check.edge("1: operations that are done (torn ones included) are counted", () -> {
            TwinBoot boot = Devices.running(ONE, 7);
            boot.setPower(0);
            boot.update(3);
            Check.same("operations() of a torn erasure", 1, boot.operations());
            boot.boot();
            boot.setPower(8);
            boot.update(3);
            Check.same("operations() with a torn write", 10, boot.operations());
        });
        Check.edge("1: power without limit is never used up", () -> {
            TwinBoot boot = Devices.running(ONE, 7);
            boot.update(3);
            Check.same("power()", NONE, boot.power());
        });
    }

    // ---- section 2

    private static void whole(boolean due, String flash, int... image) {
        TwinBoot boot = Check.device(flash);
        Devices.lay(boot, 1, image);
        Check.same("isWhole(1) of version " + image[0] + " and length " + image[1], due, boot.isWhole(1));
    }

    /** An image of payload words 0, as far as there is room, behind which all is erased. */
    private static int[] longImage(int version, int length, int room) {
        int[] image = new int[3 + room];
        java.util.Arrays.fill(image, 65535);
        image[0] = version;
        image[1] = length;
        image[2] = version + 3 * length & 65535;
        for (int k = 0; k < length && k < room; k++) {
            image[3 + k] = 0;
        }
        return image;
    }

    private static void images() {
        Check.edge("2: a version is 1 to 255", () -> {
            whole(false, PLAIN, 0, 1, 3 + 7, 7);
            whole(true, PLAIN, 1, 1, 1 + 3 + 7, 7);
            whole(true, PLAIN, 255, 1, 255 + 3 + 7, 7);
            whole(false, PLAIN, 256, 1, 256 + 3 + 7, 7);
            whole(false, PLAIN, 65535, 1, 2 + 7, 7);
        });
        Check.edge("2: a length is 1 to WORDS - 3", () -> {
            for (int words : new int[] {8, 16, 64}) {
                String flash = "flash " + words + " 4 12";
                whole(false, flash, longImage(5, 0, words - 3));
                whole(true, flash, longImage(5, 1, words - 3));
                whole(true, flash, longImage(5, words - 3, words - 3));
                whole(false, flash, longImage(5, words - 2, words - 3));
                whole(false, flash, longImage(5, 65535, words - 3));
            }
        });
        Check.edge("2: a slot is whole if its word 2 is the checksum", () -> {
            whole(true, PLAIN, 1, 2, 1 + 6 + 3 + 8, 3, 4);
            whole(false, PLAIN, 1, 2, 1 + 6 + 3 + 8 + 1, 3, 4);
            whole(false, PLAIN, 1, 2, 1 + 6 + 3 + 8 - 1, 3, 4);
        });
        Check.edge("2: the checksum is modulo 65536", () -> {
            whole(true, PLAIN, 1, 1, 65535, 65531);
            whole(true, PLAIN, 1, 1, 0, 65532);
            whole(true, PLAIN, 1, 1, 1, 65533);
            whole(false, PLAIN, 1, 1, 65535, 65532);
        });
        Check.edge("2: the checksum of the longest payload of the greatest words", () -> {
            TwinBoot boot = Check.device("flash 64 4 12;image 0 255" + " 65535".repeat(61));
            // 255 + 3 * 61 + 65535 * (61 * 62 / 2), and 65535 is -1 modulo 65536
            Check.same("checksum(0)", 65536 + 255 + 183 - 1891, boot.checksum(0));
            Check.same("word(0, 2)", 65536 + 255 + 183 - 1891, boot.word(0, 2));
            Check.same("isWhole(0)", true, boot.isWhole(0));
        });
        Check.edge("2: an erased slot is not whole", () -> {
            Check.same("isWhole(0)", false, new TwinBoot().isWhole(0));
        });
    }

    // ---- promises 21 to 23

    private static void promisesOfWords() {
        Check.edge("Promise 21: NONE if there is none", () -> {
            TwinBoot boot = Check.device("flash 8 4 12;image 0 1 5");
            Check.same("word(0, 0)", 1, boot.word(0, 0));
            Check.same("word(1, 7)", 65535, boot.word(1, 7));
            for (int index : new int[] {-1, 8, 9, 63, 64, FAR[0], FAR[1]}) {
                Check.same("word(0, " + index + ")", NONE, boot.word(0, index));
                Check.same("word(1, " + index + ")", NONE, boot.word(1, index));
            }
            Check.same("word(1, 63) of 64 words", 65535, Check.device("flash 64 4 12").word(1, 63));
            Check.same("word(1, 64) of 64 words", NONE, Check.device("flash 64 4 12").word(1, 64));
        });
        Check.edge("Promise 21: throws IllegalArgumentException if slot is out of range", () -> {
            TwinBoot boot = new TwinBoot();
            for (int slot : new int[] {-1, 2, FAR[0], FAR[1]}) {
                Check.badArgument("word(" + slot + ", 0)", () -> boot.word(slot, 0));
                Check.badArgument("word(" + slot + ", 99)", () -> boot.word(slot, 99));
            }
        });
        Check.edge("Promise 22: NONE if there is none", () -> {
            TwinBoot boot = new TwinBoot();
            Check.same("journalWord(0, 0)", 24582, boot.journalWord(0, 0));
            Check.same("journalWord(1, 11)", 65535, boot.journalWord(1, 11));
            for (int index : new int[] {-1, 12, 13, 32, FAR[0], FAR[1]}) {
                Check.same("journalWord(0, " + index + ")", NONE, boot.journalWord(0, index));
                Check.same("journalWord(1, " + index + ")", NONE, boot.journalWord(1, index));
            }
            Check.same("journalWord(1, 31) of 32 words", 65535, Check.device("flash 8 4 32").journalWord(1, 31));
            Check.same("journalWord(1, 32) of 32 words", NONE, Check.device("flash 8 4 32").journalWord(1, 32));
        });
        Check.edge("Promise 22: throws IllegalArgumentException if page is out of range", () -> {
            TwinBoot boot = new TwinBoot();
            for (int page : new int[] {-1, 2, FAR[0], FAR[1]}) {
                Check.badArgument("journalWord(" + page + ", 0)", () -> boot.journalWord(page, 0));
                Check.badArgument("journalWord(" + page + ", 99)", () -> boot.journalWord(page, 99));
            }
        });
    }

    private static void promisesOfWear() {
        Check.edge("Promise 23: throws IllegalArgumentException if area is out of range (checked first)", () -> {
            TwinBoot boot = new TwinBoot();
            for (int area : new int[] {-1, 3, FAR[0], FAR[1]}) {
                Check.badArgument("wear(" + area + ", 0)", () -> boot.wear(area, 0));
                Check.badArgument("wear(" + area + ", 99)", () -> boot.wear(area, 99));
                Check.badArgument("wear(" + area + ", -1)", () -> boot.wear(area, -1));
            }
        });
        Check.edge("Promise 23: throws IndexOutOfBoundsException if there is no such page", () -> {
            int[][] flashes = {{8, 8, 1}, {8, 4, 2}, {64, 16, 4}, {64, 4, 16}};
            for (int[] flash : flashes) {
                TwinBoot boot = Check.device("flash " + flash[0] + " " + flash[1] + " 12");
                for (int area = 0; area <= 2; area++) {
                    int slot = area;
                    int pages = area == 2 ? 2 : flash[2];
                    Check.same("wear(" + area + ", the last page)", 0, boot.wear(area, pages - 1));
                    for (int page : new int[] {-1, pages, pages + 1, FAR[0], FAR[1]}) {
                        Check.badIndex("wear(" + area + ", " + page + ")", () -> boot.wear(slot, page));
                    }
                }
            }
        });
        Check.edge("Promise 24: the smallest such number of several", () -> {
            TwinBoot boot = Devices.running(ONE);
            Check.same("mostWorn() when none was erased", 0, boot.mostWorn());
            boot.moveJournal();
            Check.same("mostWorn() of journal page 1", 201, boot.mostWorn());
            boot.moveJournal();
            Check.same("mostWorn() of both journal pages", 200, boot.mostWorn());
            boot.mirror();
            Check.same("mostWorn() of slot 1 and the journal", 100, boot.mostWorn());
            boot.moveJournal();
            Check.same("mostWorn() of journal page 1 again", 201, boot.mostWorn());
        });
        Check.edge("Promise 24: the smallest page of a slot, and the last page", () -> {
            TwinBoot boot = Devices.running(PLAIN + ";image 0 2 10;image 1 3 0 255 0 255 0 255 0 255 0 255 0;good 0");
            Check.stage(boot, 255, 255, 0, 255, 0, 255, 0, 255, 0, 255, 255, 255, 255);
            Check.same("thriftyPages()", 1 + 8, boot.thriftyPages());
            boot.thriftyUpdate(3);
            Check.same("mostWorn() of the pages 0 and 3", 100, boot.mostWorn());
            Check.same("wear(1, 3)", 1, boot.wear(1, 3));
            Check.same("wear(1, 2)", 0, boot.wear(1, 2));
        });
        Check.edge("Promise 24: the most pages of a slot", () -> {
            TwinBoot boot = Devices.running("flash 64 4 12;image 0 2 10;good 0");
            Check.same("mostWorn() when none was erased", 0, boot.mostWorn());
            for (int k = 0; k < 61; k++) {
                boot.stage(k < 57 ? 65535 : 7);
            }
            boot.damage(1, 60, 1);
            Check.same("thriftyPages()", 1 + 32768, boot.thriftyPages());
            boot.thriftyUpdate(3);
            boot.clearStaged();
            boot.setPower(0);
            boot.mirror();
            Check.same("mostWorn() of page 0", 100, boot.mostWorn());
            Check.same("wear(1, 15)", 1, boot.wear(1, 15));
            TwinBoot one = Devices.running("flash 16 16 12;image 1 2 10;good 1");
            one.mirror();
            Check.same("mostWorn() of a slot of one page", 0, one.mostWorn());
            Check.same("wear(0, 0)", 1, one.wear(0, 0));
        });
        Check.edge("Promise 25: worn out: their wear is greater than LIFE", () -> {
            TwinBoot boot = Devices.running("flash 64 4 12;image 0 2 10;good 0;life 2");
            mirror(boot, 2);
            Check.same("wornOut(1) at LIFE", 0, boot.wornOut(1));
            mirror(boot, 1);
            Check.same("wornOut(1) behind LIFE", 65535, boot.wornOut(1));
            Check.same("wornOut(0)", 0, boot.wornOut(0));
        });
        Check.edge("Promise 25: the sum of 2^k over these pages k", () -> {
            TwinBoot boot = Devices.running(ONE + ";life 1");
            mirror(boot, 1);
            boot.setPower(0);
            boot.mirror();
            Check.same("wornOut(1) of page 0", 1, boot.wornOut(1));
            boot.boot();
            boot.setPower(1);
            boot.mirror();
            Check.same("wornOut(1) of the pages 0 and 1", 3, boot.wornOut(1));
        });
        Check.edge("Promise 25: and LIFE is greater than 0", () -> {
            TwinBoot boot = Devices.running(ONE);
            mirror(boot, 3);
            Check.same("wornOut(1) without LIFE", 0, boot.wornOut(1));
        });
        Check.edge("Promise 25: throws IllegalArgumentException if slot is out of range", () -> {
            slotsOutOfRange("wornOut", slot -> new TwinBoot().wornOut(slot));
        });
        Check.edge("Promise 26: how many operations have been done, since load() or the beginning", () -> {
            TwinBoot boot = Devices.running(ONE);
            Check.same("operations() when none was done", 0, boot.operations());
            mirror(boot, 1);
            Check.same("operations()", 4 + 2 + 3 + 1, boot.operations());
            Check.load(boot, "x");
            Check.same("operations() behind a load() that is refused", 10, boot.operations());
            Check.load(boot, ONE);
            Check.same("operations() behind load()", 0, boot.operations());
        });
    }

    private static void slotsOutOfRange(String name, java.util.function.IntConsumer call) {
        for (int slot : new int[] {-1, 2, FAR[0], FAR[1]}) {
            Check.badArgument(name + "(" + slot + ")", () -> call.accept(slot));
        }
    }

    // ---- promises 27 to 33

    private static void promisesOfImages() {
        Check.edge("Promise 27: throws IllegalArgumentException if slot is out of range", () -> {
            slotsOutOfRange("isWhole", slot -> new TwinBoot().isWhole(slot));
        });
        Check.edge("Promise 27: each slot for itself", () -> {
            Check.same("isWhole(0)", true, Check.device(ONE).isWhole(0));
            Check.same("isWhole(1)", false, Check.device(ONE).isWhole(1));
        });
        Check.edge("Promise 28: throws IllegalArgumentException if slot is out of range", () -> {
            slotsOutOfRange("isBootable", slot -> new TwinBoot().isBootable(slot));
        });
        Check.edge("Promise 28: whole, at least the floor, not bad", () -> {
            Check.same("isBootable(0) of an erased slot", false, new TwinBoot().isBootable(0));
            Check.same("isBootable(0) above the floor", true, Check.device(ONE + ";floor 1").isBootable(0));
            Check.same("isBootable(0) at the floor", true, Check.device(ONE + ";floor 2").isBootable(0));
            Check.same("isBootable(0) below the floor", false, Check.device(ONE + ";floor 3").isBootable(0));
            TwinBoot bad = Check.device(Devices.BOTH);
            Devices.putAll(bad, 5000);
            Check.same("isBootable(0) of a bad slot", false, bad.isBootable(0));
            Check.same("isBootable(1) beside a bad slot", true, bad.isBootable(1));
        });
        Check.edge("Promise 28: there is no active page, so no floor and no bad slot", () -> {
            TwinBoot boot = Check.device(ONE + ";floor 3");
            Devices.putAll(boot, 5000);
            boot.damageJournal(0, 0, 65535);
            Check.same("isBootable(0)", true, boot.isBootable(0));
        });
        Check.edge("Promise 29: NONE if its words 0 and 1 are not in their ranges", () -> {
            int[][] images = {{0, 1}, {1, 0}, {256, 1}, {1, 14}, {65535, 13}, {255, 65535}};
            for (int[] image : images) {
                TwinBoot boot = new TwinBoot();
                Devices.lay(boot, 1, image);
                Check.same("checksum(1) of " + image[0] + ", " + image[1], NONE, boot.checksum(1));
            }
        });
        Check.edge("Promise 29: words 0 and 1 are at the ends of their ranges", () -> {
            TwinBoot least = new TwinBoot();
            Devices.lay(least, 1, 1, 1, 0, 0);
            Check.same("checksum(1) of 1, 1", 1 + 3, least.checksum(1));
            TwinBoot most = new TwinBoot();
            Devices.lay(most, 1, longImage(255, 13, 13));
            Check.same("checksum(1) of 255, 13", 255 + 39, most.checksum(1));
        });
        Check.edge("Promise 29: of what is in a slot (also if it is not whole)", () -> {
            TwinBoot boot = Check.device(ONE);
            boot.damage(0, 2, 65535);
            Check.same("checksum(0)", 2 + 6 + 10 + 40, boot.checksum(0));
        });
        Check.edge("Promise 29: throws IllegalArgumentException if slot is out of range", () -> {
            slotsOutOfRange("checksum", slot -> new TwinBoot().checksum(slot));
        });
    }

    private static void promisesOfComparisons() {
        Check.edge("Promise 30: the smallest index k for which staged word k is not word 3 + k of the slot", () -> {
            TwinBoot boot = Check.device(ONE);
            Check.stage(boot, 11, 21);
            Check.same("verify(0)", 0, boot.verify(0));
            Check.stage(boot, 10, 21, 1);
            Check.same("verify(0)", 1, boot.verify(0));
            Check.stage(boot, 10, 20, 1);
            Check.same("verify(0)", 2, boot.verify(0));
        });
        Check.edge("Promise 30: if there is none, the number of staged words if this is not word 1 of the slot", () -> {
            TwinBoot boot = Check.device(ONE);
            Check.same("verify(0) of no staged words", 0, boot.verify(0));
            Check.stage(boot, 10);
            Check.same("verify(0) of one word less", 1, boot.verify(0));
            Check.stage(boot, 10, 20, 65535);
            Check.same("verify(0) of one word more", 3, boot.verify(0));
            boot.clearStaged();
            for (int k = 0; k < 13; k++) {
                boot.stage(65535);
            }
            Check.same("verify(1) of an erased slot", 13, boot.verify(1));
        });
        Check.edge("Promise 30: otherwise NONE", () -> {
            TwinBoot boot = Check.device(ONE);
            Check.stage(boot, 10, 20);
            Check.same("verify(0)", NONE, boot.verify(0));
            boot.damage(0, 2, 65535);
            Check.same("verify(0) of a slot that is not whole", NONE, boot.verify(0));
            boot.clearStaged();
            boot.damage(0, 1, 65535);
            Check.same("verify(0) of no words at all", NONE, boot.verify(0));
        });
        Check.edge("Promise 30: throws IllegalArgumentException if slot is out of range", () -> {
            slotsOutOfRange("verify", slot -> new TwinBoot().verify(slot));
        });
        Check.edge("Promise 31: how many different payload words", () -> {
            Check.same("differentWords(0) of one", 1, Check.device(PLAIN + ";image 0 1 5").differentWords(0));
            Check.same("differentWords(0) of equal ones", 1,
                    Check.device(PLAIN + ";image 0 1" + " 5".repeat(13)).differentWords(0));
            Check.same("differentWords(0) of 13", 13,
                    Check.device(PLAIN + ";image 0 1 1 2 3 4 5 6 7 8 9 10 11 12 13").differentWords(0));
            Check.same("differentWords(0) of a first and a last one that are equal", 2,
                    Check.device(PLAIN + ";image 0 1 65535 0 65535").differentWords(0));
        });
        Check.edge("Promise 31: 0 if the slot is not whole", () -> {
            TwinBoot boot = Check.device(ONE);
            Check.same("differentWords(1) of an erased slot", 0, boot.differentWords(1));
            boot.damage(0, 2, 65535);
            Check.same("differentWords(0) with a wrong checksum", 0, boot.differentWords(0));
        });
        Check.edge("Promise 31: throws IllegalArgumentException if slot is out of range", () -> {
            slotsOutOfRange("differentWords", slot -> new TwinBoot().differentWords(slot));
        });
        Check.edge("Promise 32: the number of indices at which they have different words", () -> {
            TwinBoot boot = new TwinBoot();
            Check.same("differences() of erased slots", 0, boot.differences());
            boot.damage(0, 0, 1);
            boot.damage(1, 15, 1);
            Check.same("differences() of the first and the last word", 2, boot.differences());
            for (int index = 0; index < 16; index++) {
                boot.damage(0, index, 6);
            }
            Check.same("differences() of all words", 16, boot.differences());
            Check.same("differences() of 64 words", 0, Check.device("flash 64 4 12").differences());
        });
        Check.edge("Promise 33: the number of all words together", () -> {
            TwinBoot boot = new TwinBoot();
            Check.same("zeroBits(0) of an erased slot", 0, boot.zeroBits(0));
            boot.damage(0, 0, 1);
            boot.damage(0, 15, 32768);
            Check.same("zeroBits(0) of the first and the last bit", 2, boot.zeroBits(0));
            Check.same("zeroBits(1)", 0, boot.zeroBits(1));
            for (int index = 0; index < 16; index++) {
                boot.damage(1, index, 65535);
            }
            Check.same("zeroBits(1) of all bits", 256, boot.zeroBits(1));
            Check.same("zeroBits(1) of 64 words", 0, Check.device("flash 64 4 12").zeroBits(1));
        });
        Check.edge("Promise 33: throws IllegalArgumentException if slot is out of range", () -> {
            slotsOutOfRange("zeroBits", slot -> new TwinBoot().zeroBits(slot));
        });
    }

    // ---- promises 34 and 35

    private static void promisesOfDamage() {
        Check.edge("Promise 34: mask is 0 to 65535; returns how many bits changed", () -> {
            TwinBoot boot = new TwinBoot();
            Check.same("damage(0, 0, 0)", 0, boot.damage(0, 0, 0));
            Check.same("damage(0, 0, 1)", 1, boot.damage(0, 0, 1));
            Check.same("damage(0, 0, 3)", 1, boot.damage(0, 0, 3));
            Check.same("damage(0, 0, 65535)", 14, boot.damage(0, 0, 65535));
            Check.same("damage(0, 0, 65535) again", 0, boot.damage(0, 0, 65535));
            Check.same("damage(1, 15, 65535)", 16, boot.damage(1, 15, 65535));
            Check.same("word(1, 15)", 0, boot.word(1, 15));
            Check.same("word(1, 14)", 65535, boot.word(1, 14));
        });
        Check.edge("Promise 34: this is no operation", () -> {
            TwinBoot boot = Devices.running(ONE);
            boot.setPower(0);
            Check.same("damage(0, 3, 2)", 1, boot.damage(0, 3, 2));
            Check.same("word(0, 3)", 8, boot.word(0, 3));
            Check.same("operations()", 0, boot.operations());
            Check.same("state()", 1, boot.state());
            Check.same("logSize()", 1, boot.logSize());
            Check.same("wear(0, 0)", 0, boot.wear(0, 0));
        });
        Check.edge("Promise 34: throws IllegalArgumentException if slot is out of range (checked first)", () -> {
            TwinBoot boot = Check.device(ONE);
            for (int slot : new int[] {-1, 2, FAR[0], FAR[1]}) {
                Devices.throwsBadArgument(boot, "damage(" + slot + ", 0, 1)", () -> boot.damage(slot, 0, 1));
                Check.badArgument("damage(" + slot + ", 99, 1)", () -> boot.damage(slot, 99, 1));
            }
        });
        Check.edge("Promise 34: throws IllegalArgumentException if mask is out of range (checked first)", () -> {
            for (int mask : new int[] {-1, 65536, FAR[0], FAR[1]}) {
                TwinBoot boot = Check.device(ONE);
                Devices.throwsBadArgument(boot, "damage(0, 0, " + mask + ")", () -> boot.damage(0, 0, mask));
                Check.badArgument("damage(0, 16, " + mask + ")", () -> boot.damage(0, 16, mask));
            }
        });
        Check.edge("Promise 34: throws IndexOutOfBoundsException if there is no such word", () -> {
            for (int index : new int[] {-1, 16, 17, 64, FAR[0], FAR[1]}) {
                TwinBoot boot = Check.device(ONE);
                Devices.throwsBadIndex(boot, "damage(0, " + index + ", 1)", () -> boot.damage(0, index, 1));
                Check.badIndex("damage(1, " + index + ", 0)", () -> boot.damage(1, index, 0));
            }
        });
        Check.edge("Promise 35: mask is as for damage(int, int, int); returns how many bits changed", () -> {
            TwinBoot boot = new TwinBoot();
            Check.same("damageJournal(0, 0, 0)", 0, boot.damageJournal(0, 0, 0));
            // HEAD with the generation 0 is 0110 0000 0000 0110
            Check.same("damageJournal(0, 0, 65535)", 4, boot.damageJournal(0, 0, 65535));
            Check.same("damageJournal(0, 0, 65535) again", 0, boot.damageJournal(0, 0, 65535));
            Check.same("damageJournal(1, 11, 65535)", 16, boot.damageJournal(1, 11, 65535));
            Check.same("journalWord(1, 11)", 0, boot.journalWord(1, 11));
            Check.same("journalWord(1, 10)", 65535, boot.journalWord(1, 10));
        });
        Check.edge("Promise 35: likewise, this is no operation", () -> {
            TwinBoot boot = Devices.running(ONE);
            boot.setPower(0);
            Check.same("damageJournal(1, 0, 1)", 1, boot.damageJournal(1, 0, 1));
            Check.same("operations()", 0, boot.operations());
            Check.same("state()", 1, boot.state());
            Check.same("logSize()", 1, boot.logSize());
            Check.same("wear(2, 1)", 0, boot.wear(2, 1));
        });
        Check.edge("Promise 35: throws IllegalArgumentException if page is out of range (checked first)", () -> {
            TwinBoot boot = Check.device(ONE);
            for (int page : new int[] {-1, 2, FAR[0], FAR[1]}) {
                Devices.throwsBadArgument(boot, "damageJournal(" + page + ", 0, 1)",
                        () -> boot.damageJournal(page, 0, 1));
                Check.badArgument("damageJournal(" + page + ", 99, 1)", () -> boot.damageJournal(page, 99, 1));
            }
        });
        Check.edge("Promise 35: throws IllegalArgumentException if mask is out of range (checked first)", () -> {
            for (int mask : new int[] {-1, 65536, FAR[0], FAR[1]}) {
                TwinBoot boot = Check.device(ONE);
                Devices.throwsBadArgument(boot, "damageJournal(0, 0, " + mask + ")",
                        () -> boot.damageJournal(0, 0, mask));
                Check.badArgument("damageJournal(0, 12, " + mask + ")", () -> boot.damageJournal(0, 12, mask));
            }
        });
        Check.edge("Promise 35: throws IndexOutOfBoundsException if there is no such word", () -> {
            for (int index : new int[] {-1, 12, 13, 32, FAR[0], FAR[1]}) {
                TwinBoot boot = Check.device(ONE);
                Devices.throwsBadIndex(boot, "damageJournal(0, " + index + ", 1)",
                        () -> boot.damageJournal(0, index, 1));
                Check.badIndex("damageJournal(1, " + index + ", 0)", () -> boot.damageJournal(1, index, 0));
            }
        });
    }
}
