/** Promises 21 to 35: words, wear, images and damage. */
public final class FlashTest {
    private static final int NONE = TwinBoot.NONE;
    private static final String TEXT = "flash 20 5 13;image 0 2 10 20 10;image 1 3 65535;good 0";

    public static void main(String[] args) {
        words();
        journalWords();
        wear();
        wornOut();
        operations();
        whole();
        bootable();
        checksum();
        verify();
        differentWords();
        differencesAndZeroBits();
        damage();
        damageJournal();
        Check.end();
    }

    private static void words() {
        TwinBoot boot = Check.device(TEXT);
        int[] due = {2, 3, 2 + 9 + 10 + 40 + 30, 10, 20, 10, 65535};
        for (int i = 0; i < due.length; i++) {
            Check.same("word(0, " + i + ")", due[i], boot.word(0, i));
        }
        Check.same("word(1, 0)", 3, boot.word(1, 0));
        Check.same("word(1, 19)", 65535, boot.word(1, 19));
        Check.same("word(1, 20)", NONE, boot.word(1, 20));
        Check.same("word(0, -1)", NONE, boot.word(0, -1));
        Check.same("word(0, MAX)", NONE, boot.word(0, Integer.MAX_VALUE));
        Check.same("word(0, MIN)", NONE, boot.word(0, Integer.MIN_VALUE));
        Check.badArgument("word(-1, 0)", () -> boot.word(-1, 0));
        Check.badArgument("word(2, 0)", () -> boot.word(2, 0));
        Check.badArgument("word(2, 99)", () -> boot.word(2, 99));
    }

    private static void journalWords() {
        TwinBoot boot = Check.device(TEXT);
        Check.same("journalWord(0, 0)", 24582, boot.journalWord(0, 0));
        Check.same("journalWord(0, 1)", 8194, boot.journalWord(0, 1));
        Check.same("journalWord(0, 12)", 65535, boot.journalWord(0, 12));
        Check.same("journalWord(0, 13)", NONE, boot.journalWord(0, 13));
        Check.same("journalWord(1, -1)", NONE, boot.journalWord(1, -1));
        Check.same("journalWord(1, 0)", 65535, boot.journalWord(1, 0));
        Check.same("journalWord(1, MAX)", NONE, boot.journalWord(1, Integer.MAX_VALUE));
        Check.badArgument("journalWord(-1, 0)", () -> boot.journalWord(-1, 0));
        Check.badArgument("journalWord(2, 0)", () -> boot.journalWord(2, 0));
    }

    private static void wear() {
        TwinBoot boot = Check.device(TEXT);
        Check.badArgument("wear(-1, 0)", () -> boot.wear(-1, 0));
        Check.badArgument("wear(3, 0)", () -> boot.wear(3, 0));
        Check.badArgument("wear(3, 99)", () -> boot.wear(3, 99));
        Check.badIndex("wear(0, -1)", () -> boot.wear(0, -1));
        Check.badIndex("wear(0, 4)", () -> boot.wear(0, 4));
        Check.badIndex("wear(1, MAX)", () -> boot.wear(1, Integer.MAX_VALUE));
        Check.badIndex("wear(2, 2)", () -> boot.wear(2, 2));
        Check.badIndex("wear(2, -1)", () -> boot.wear(2, -1));
        Check.same("mostWorn() of a new device", 0, boot.mostWorn());
        boot.boot();
        boot.moveJournal();
        Check.same("wear(2, 1)", 1, boot.wear(2, 1));
        Check.same("mostWorn() behind a move", 201, boot.mostWorn());
        boot.moveJournal();
        Check.same("wear(2, 0)", 1, boot.wear(2, 0));
        Check.same("mostWorn() behind two moves", 200, boot.mostWorn());
        boot.mirror();
        Check.same("wear(1, 3)", 1, boot.wear(1, 3));
        Check.same("wear(0, 0)", 0, boot.wear(0, 0));
        Check.same("mostWorn() behind a mirror", 100, boot.mostWorn());
        boot.setPower(1);
        boot.mirror();
        Check.same("wear(1, 0) behind a cut", 2, boot.wear(1, 0));
        Check.same("wear(1, 1) behind a cut", 2, boot.wear(1, 1));
        Check.same("wear(1, 2) behind a cut", 1, boot.wear(1, 2));
        boot.setPower(NONE);
        boot.boot();
        Check.stage(boot, 65535, 65535, 65535);
        boot.thriftyUpdate(3);
        boot.boot();
        boot.confirm();
        Check.stage(boot, 1);
        boot.update(3);
        Check.same("wear(0, 3)", 1, boot.wear(0, 3));
        Check.same("mostWorn() of slot 1, page 0", 100, boot.mostWorn());
        TwinBoot fine = Check.device("flash 64 4 32");
        Check.same("wear(1, 15)", 0, fine.wear(1, 15));
        Check.badIndex("wear(1, 16)", () -> fine.wear(1, 16));
    }

    private static void wornOut() {
        TwinBoot boot = Check.device(TEXT + ";life 2");
        boot.boot();
        boot.mirror();
        boot.mirror();
        Check.same("wornOut(1) at LIFE", 0, boot.wornOut(1));
        boot.setPower(1);
        boot.mirror();
        Check.same("wornOut(1) behind two pages more", 3, boot.wornOut(1));
        Check.same("wornOut(0)", 0, boot.wornOut(0));
        Check.badArgument("wornOut(2)", () -> boot.wornOut(2));
        Check.badArgument("wornOut(-1)", () -> boot.wornOut(-1));
        TwinBoot endless = Check.device(TEXT);
        endless.boot();
        endless.mirror();
        Check.same("wornOut(1) without LIFE", 0, endless.wornOut(1));
    }

    private static void operations() {
        TwinBoot boot = Check.device(TEXT);
        Check.same("operations() at first", 0, boot.operations());
        boot.boot();
        boot.damage(1, 0, 1);
        boot.bootOperations();
        boot.updateOperations(3);
        Check.same("operations() without any", 0, boot.operations());
        boot.mirror();
        Check.same("operations() of mirror()", 4 + 3 + 3 + 1, boot.operations());
        boot.setPower(0);
        boot.mirror();
        Check.same("operations() with a torn one", 12, boot.operations());
        Check.load(boot, TEXT);
        Check.same("operations() behind load()", 0, boot.operations());
    }

    private static void whole() {
        TwinBoot boot = Check.device(TEXT);
        Check.same("isWhole(0)", true, boot.isWhole(0));
        Check.same("isWhole(1)", true, boot.isWhole(1));
        boot.damage(0, 6, 65535);
        Check.same("isWhole(0) with damage behind the payload", true, boot.isWhole(0));
        boot.damage(0, 5, 2);
        Check.same("isWhole(0) with a damaged payload", false, boot.isWhole(0));
        boot.damage(1, 2, 1);
        Check.same("isWhole(1) with a damaged checksum", false, boot.isWhole(1));
        Check.badArgument("isWhole(2)", () -> boot.isWhole(2));
        Check.badArgument("isWhole(-1)", () -> boot.isWhole(-1));
        TwinBoot zero = Check.device("flash 16 4 12;image 0 1 1;image 1 4 1");
        zero.damage(0, 0, 1);
        zero.damage(0, 2, 1);
        // word 2 was 1 + 3 + 1 = 5; without the version it fits, but the version is 0
        Check.same("word(0, 2)", 4, zero.word(0, 2));
        Check.same("isWhole(0) with version 0", false, zero.isWhole(0));
    }

    private static void bootable() {
        TwinBoot boot = Check.device(TEXT + ";floor 3");
        Check.same("isBootable(0) below the floor", false, boot.isBootable(0));
        Check.same("isBootable(1) at the floor", true, boot.isBootable(1));
        Check.badArgument("isBootable(2)", () -> boot.isBootable(2));
        Check.badArgument("isBootable(-1)", () -> boot.isBootable(-1));
        boot.damageJournal(0, 0, 65535);
        Check.same("isBootable(0) without an active page", true, boot.isBootable(0));
        boot.damage(0, 3, 65535);
        Check.same("isBootable(0) when not whole", false, boot.isBootable(0));
        TwinBoot bad = Check.device(TEXT + ";tries 1");
        bad.boot();
        Check.stage(bad, 1);
        bad.update(3);
        Check.same("isBootable(1) when new", true, bad.isBootable(1));
        bad.boot();
        bad.boot();
        Check.same("isBootable(1) when bad", false, bad.isBootable(1));
        Check.same("isWhole(1) when bad", true, bad.isWhole(1));
        Check.stage(bad, 1);
        bad.update(3);
        Check.same("isBootable(1) when new again", true, bad.isBootable(1));
    }

    private static void checksum() {
        TwinBoot boot = Check.device(TEXT);
        Check.same("checksum(0)", 2 + 9 + 10 + 40 + 30, boot.checksum(0));
        Check.same("checksum(1)", (3 + 3 + 65535) % 65536, boot.checksum(1));
        boot.damage(0, 4, 4);
        Check.same("checksum(0) of what is there now", 2 + 9 + 10 + 32 + 30, boot.checksum(0));
        boot.damage(0, 1, 3);
        Check.same("checksum(0) with length 0", NONE, boot.checksum(0));
        boot.damage(1, 0, 65535);
        Check.same("checksum(1) with version 0", NONE, boot.checksum(1));
        Check.badArgument("checksum(2)", () -> boot.checksum(2));
        Check.badArgument("checksum(-1)", () -> boot.checksum(-1));
        TwinBoot erased = new TwinBoot();
        Check.same("checksum(0) of an erased slot", NONE, erased.checksum(0));
        erased.damage(0, 0, 65535 - 255);
        erased.damage(0, 1, 65535 - 13);
        Check.same("checksum(0) of the longest payload", (255 + 39 - 91 + 65536) % 65536, erased.checksum(0));
        TwinBoot old = new TwinBoot();
        old.damage(0, 0, 65535 - 256);
        old.damage(0, 1, 65535 - 1);
        Check.same("checksum(0) with version 256", NONE, old.checksum(0));
        TwinBoot tooLong = new TwinBoot();
        tooLong.damage(1, 0, 65535 - 1);
        tooLong.damage(1, 1, 65535 - 14);
        Check.same("checksum(1) with a length beyond the slot", NONE, tooLong.checksum(1));
    }

    private static void verify() {
        TwinBoot boot = Check.device(TEXT);
        Check.same("verify(0) without staged words", 0, boot.verify(0));
        Check.stage(boot, 10, 20);
        Check.same("verify(0) with too few words", 2, boot.verify(0));
        Check.same("verify(1)", 0, boot.verify(1));
        boot.stage(10);
        Check.same("verify(0)", NONE, boot.verify(0));
        boot.stage(65535);
        Check.same("verify(0) with a word too much", 4, boot.verify(0));
        Check.stage(boot, 10, 20, 11, 1);
        Check.same("verify(0) with another word", 2, boot.verify(0));
        boot.clearStaged();
        boot.damage(1, 1, 65535);
        Check.same("verify(1) with nothing on both sides", NONE, boot.verify(1));
        Check.badArgument("verify(2)", () -> boot.verify(2));
        Check.badArgument("verify(-1)", () -> boot.verify(-1));
        TwinBoot full = Check.device("flash 64 8 12");
        for (int k = 0; k < 61; k++) {
            full.stage(65535);
        }
        Check.same("verify(0) of a full slot", 61, full.verify(0));
        full.damage(0, 63, 1);
        Check.same("verify(0) with another last word", 60, full.verify(0));
    }

    private static void differentWords() {
        TwinBoot boot = Check.device(TEXT);
        Check.same("differentWords(0)", 2, boot.differentWords(0));
        Check.same("differentWords(1)", 1, boot.differentWords(1));
        boot.damage(0, 2, 1);
        Check.same("differentWords(0) when not whole", 0, boot.differentWords(0));
        Check.badArgument("differentWords(2)", () -> boot.differentWords(2));
        Check.badArgument("differentWords(-1)", () -> boot.differentWords(-1));
        TwinBoot many = Check.device("flash 16 4 12;image 0 1 1 2 3 4 5 6 7 8 9 10 11 12 1");
        Check.same("differentWords(0) of 13 words", 12, many.differentWords(0));
        Check.same("differentWords(1) of an erased slot", 0, many.differentWords(1));
    }

    private static void differencesAndZeroBits() {
        TwinBoot boot = Check.device("flash 16 4 12;image 0 1 5 6");
        Check.same("differences()", 5, boot.differences());
        boot.damage(0, 15, 1);
        Check.same("differences() in the last word", 6, boot.differences());
        boot.damage(1, 15, 1);
        Check.same("differences() of alike words", 5, boot.differences());
        Check.same("zeroBits(1)", 1, boot.zeroBits(1));
        // 1, 2, 1 + 6 + 5 + 12 = 24, 5, 6 and 65534
        Check.same("zeroBits(0)", 15 + 15 + 14 + 14 + 14 + 1, boot.zeroBits(0));
        Check.badArgument("zeroBits(2)", () -> boot.zeroBits(2));
        Check.badArgument("zeroBits(-1)", () -> boot.zeroBits(-1));
        TwinBoot large = Check.device("flash 64 16 32");
        for (int i = 0; i < 64; i++) {
            large.damage(1, i, 65535);
        }
        Check.same("zeroBits(1) of all words", 1024, large.zeroBits(1));
        Check.same("differences() of all words", 64, large.differences());
    }

    private static void damage() {
        TwinBoot boot = Check.device(TEXT);
        Check.same("damage(0, 3, 3)", 1, boot.damage(0, 3, 3));
        Check.same("word(0, 3)", 8, boot.word(0, 3));
        Check.same("damage(0, 3, 3) again", 0, boot.damage(0, 3, 3));
        Check.same("damage(0, 3, 0)", 0, boot.damage(0, 3, 0));
        Check.same("damage(1, 19, 65535)", 16, boot.damage(1, 19, 65535));
        Check.same("operations() of damage", 0, boot.operations());
        Check.same("wear of damage", 0, boot.mostWorn());
        Check.badArgument("damage(-1, 0, 0)", () -> boot.damage(-1, 0, 0));
        Check.badArgument("damage(2, 0, 0)", () -> boot.damage(2, 0, 0));
        Check.badArgument("damage(0, 0, -1)", () -> boot.damage(0, 0, -1));
        Check.badArgument("damage(0, 99, 65536)", () -> boot.damage(0, 99, 65536));
        Check.badArgument("damage(2, 99, 0)", () -> boot.damage(2, 99, 0));
        Check.badIndex("damage(0, -1, 0)", () -> boot.damage(0, -1, 0));
        Check.badIndex("damage(0, 20, 0)", () -> boot.damage(0, 20, 0));
    }

    private static void damageJournal() {
        TwinBoot boot = Check.device(TEXT);
        Check.same("damageJournal(0, 1, 3)", 1, boot.damageJournal(0, 1, 3));
        Check.same("journalWord(0, 1)", 8192, boot.journalWord(0, 1));
        Check.same("told(1)", NONE, boot.told(1));
        Check.same("damageJournal(1, 12, 65535)", 16, boot.damageJournal(1, 12, 65535));
        Check.same("operations() of damageJournal", 0, boot.operations());
        Check.badArgument("damageJournal(-1, 0, 0)", () -> boot.damageJournal(-1, 0, 0));
        Check.badArgument("damageJournal(2, 99, 0)", () -> boot.damageJournal(2, 99, 0));
        Check.badArgument("damageJournal(0, 99, 65536)", () -> boot.damageJournal(0, 99, 65536));
        Check.badArgument("damageJournal(0, 0, -1)", () -> boot.damageJournal(0, 0, -1));
        Check.badIndex("damageJournal(0, -1, 0)", () -> boot.damageJournal(0, -1, 0));
        Check.badIndex("damageJournal(0, 13, 0)", () -> boot.damageJournal(0, 13, 0));
    }
}
