import java.util.ArrayList;
import java.util.List;
import java.util.Random;

/** Runs of 512 calls with fixed seeds: TwinBoot and the model of these tests must answer alike. */
public final class RandomRunsTest {
    private interface Made {
        long answer();
    }

    private static final long ILLEGAL = Long.MIN_VALUE;
    private static final long NO_INDEX = Long.MIN_VALUE + 1;
    private static final long OTHER = Long.MIN_VALUE + 2;
    private static final int CALLS = 512;

    private final Random random;
    private final TwinBoot boot = new TwinBoot();
    private final Model model = new Model();
    private final List<String> told = new ArrayList<>();
    private int calls = 0;
    private boolean wrong = false;

    private RandomRunsTest(long seed) {
        random = new Random(seed);
    }

    public static void main(String[] args) {
        int runs = args.length > 0 ? Integer.parseInt(args[0]) : 400;
        int first = args.length > 1 ? Integer.parseInt(args[1]) : 0;
        for (int seed = first; seed < first + runs; seed++) {
            RandomRunsTest run = new RandomRunsTest(seed);
            run.play();
            Check.same("the run with seed " + seed, false, run.wrong);
        }
        Check.end();
    }

    private static long answerOf(Made made) {
        try {
            return made.answer();
        } catch (IllegalArgumentException e) {
            return ILLEGAL;
        } catch (IndexOutOfBoundsException e) {
            return e.getClass() == IndexOutOfBoundsException.class ? NO_INDEX : OTHER;
        } catch (RuntimeException e) {
            return OTHER;
        }
    }

    private void same(String call, Made due, Made got) {
        if (wrong || calls >= CALLS) {
            return;
        }
        calls++;
        long wanted = answerOf(due);
        long answered = answerOf(got);
        told.add(call + " = " + wanted);
        if (wanted != answered) {
            wrong = true;
            for (String line : told) {
                System.out.println("  " + line);
            }
            System.out.println(call + " answered " + answered + ", due is " + wanted);
        }
    }

    private void play() {
        if (random.nextInt(8) > 0) {
            load(text());
        }
        while (calls < CALLS && !wrong) {
            change();
            int looks = random.nextInt(4);
            for (int i = 0; i < looks; i++) {
                look();
            }
        }
    }

    // ---- arguments

    private boolean oneOf(int n) {
        return random.nextInt(n) == 0;
    }

    private int number(int least, int most) {
        if (oneOf(40)) {
            int[] edges = {least - 1, most + 1, Integer.MIN_VALUE, Integer.MAX_VALUE, -1, 0};
            return edges[random.nextInt(edges.length)];
        }
        if (oneOf(10)) {
            return oneOf(2) ? least : most;
        }
        return least + random.nextInt(most - least + 1);
    }

    private int version() {
        if (oneOf(12)) {
            return number(1, 255);
        }
        return Math.min(255, Math.max(1, model.told(0) + random.nextInt(4) - 1));
    }

    private int word() {
        switch (random.nextInt(5)) {
            case 0:
                return 65535 - (1 << random.nextInt(16));
            case 1:
                return 65535;
            case 2:
                return random.nextInt(4);
            case 3:
                return number(0, 65535);
            default:
                return random.nextInt(65536) & 65534;
        }
    }

    private String text() {
        int page = 4 + random.nextInt(13);
        int most = 64 / page;
        int least = (8 + page - 1) / page;
        int words = page * (least + random.nextInt(oneOf(2) ? 1 : most - least + 1));
        StringBuilder text = new StringBuilder("flash ").append(words).append(' ').append(page).append(' ');
        text.append(12 + (oneOf(2) ? 0 : random.nextInt(21)));
        List<String> statements = new ArrayList<>();
        if (oneOf(2)) {
            statements.add("tries " + (1 + random.nextInt(3)));
        }
        if (oneOf(2)) {
            statements.add("life " + (oneOf(6) ? random.nextInt(1001) : random.nextInt(6)));
        }
        if (oneOf(3)) {
            statements.add("floor " + (oneOf(5) ? random.nextInt(256) : random.nextInt(6)));
        }
        if (!oneOf(4)) {
            statements.add("good " + random.nextInt(2));
        }
        for (int slot = 0; slot < 2; slot++) {
            if (!oneOf(4)) {
                StringBuilder image = new StringBuilder("image " + slot + " " + (1 + random.nextInt(8)));
                int payload = 1 + random.nextInt(words - 3);
                for (int k = 0; k < payload; k++) {
                    image.append(' ').append(Math.min(65535, Math.max(0, word())));
                }
                statements.add(image.toString());
            }
        }
        java.util.Collections.shuffle(statements, random);
        for (String statement : statements) {
            text.append(oneOf(3) ? " ; " : ";").append(statement);
        }
        return text.toString();
    }

    private String spoiledText() {
        StringBuilder text = new StringBuilder(text());
        String[] pieces = {"tries 2", ";", "; life 3", ";good 1", " ;floor 9", ";image 1 3 4", "99999999999", " 7", "x",
            "A", "\u00e9", ";flash 16 4 12", "image", "  ", "0", ";image 0 1 2", "-"};
        int changes = 1 + random.nextInt(2);
        for (int i = 0; i < changes; i++) {
            int at = random.nextInt(text.length() + 1);
            switch (random.nextInt(4)) {
                case 0:
                    text.setLength(at);
                    break;
                case 1:
                    text.delete(at, Math.min(text.length(), at + 1 + random.nextInt(3)));
                    break;
                case 2:
                    text.append(pieces[random.nextInt(pieces.length)]);
                    break;
                default:
                    text.insert(at, pieces[random.nextInt(pieces.length)]);
                    break;
            }
        }
        return text.toString();
    }

    private void load(String text) {
        told.add("text " + text);
        Check.append(boot, text);
        for (int i = 0; i < text.length(); i++) {
            model.append(text.charAt(i));
        }
        // The two fill the buffer in different steps; so they are alike only if the text has room in it.
        if (model.append(0) != boot.append(0)) {
            model.load();
            boot.load();
            return;
        }
        same("load()", () -> model.load(), () -> boot.load());
        same("loadError()", () -> model.loadError, () -> boot.loadError());
    }

    // ---- calls that change something

    private void change() {
        switch (random.nextInt(15)) {
            case 0:
            case 1:
                stageSome();
                break;
            case 2:
            case 3:
            case 4:
                same("boot()", () -> model.boot(), () -> boot.boot());
                break;
            case 5:
            case 6:
                update();
                break;
            case 7:
            case 8:
                same("confirm()", () -> model.confirm(), () -> boot.confirm());
                break;
            case 9:
                same("mirror()", () -> model.mirror(), () -> boot.mirror());
                break;
            case 10:
                changeSeldom();
                break;
            case 11:
                if (oneOf(2)) {
                    damage();
                } else {
                    recover();
                }
                break;
            case 12:
                changePower();
                break;
            case 13:
                recover();
                break;
            default:
                cycle();
                break;
        }
    }

    private void stageSome() {
        if (oneOf(2)) {
            same("clearStaged()", () -> model.clearStaged(), () -> boot.clearStaged());
        }
        int count = oneOf(10) ? 62 : 1 + random.nextInt(4);
        for (int i = 0; i < count; i++) {
            int word = word();
            same("stage(" + word + ")", () -> model.stage(word), () -> boot.stage(word));
        }
    }

    private void update() {
        int version = version();
        if (oneOf(2)) {
            same("update(" + version + ")", () -> model.anyUpdate(version, false), () -> boot.update(version));
        } else {
            same("thriftyUpdate(" + version + ")", () -> model.anyUpdate(version, true),
                    () -> boot.thriftyUpdate(version));
        }
    }

    private void recover() {
        int slot = number(0, 1);
        int version = version();
        same("recover(" + slot + ", " + version + ")", () -> model.recover(slot, version),
                () -> boot.recover(slot, version));
    }

    private void cycle() {
        int cycles = 1 + random.nextInt(3);
        for (int i = 0; i < cycles; i++) {
            stageSome();
            update();
            same("boot()", () -> model.boot(), () -> boot.boot());
            if (!oneOf(4)) {
                same("confirm()", () -> model.confirm(), () -> boot.confirm());
            }
        }
    }

    private void changeSeldom() {
        switch (random.nextInt(6)) {
            case 0:
                same("off()", () -> model.off() ? 1 : 0, () -> boot.off() ? 1 : 0);
                break;
            case 1:
            case 2:
                same("moveJournal()", () -> model.moveJournal(), () -> boot.moveJournal());
                break;
            case 3:
                int saved = number(0, 1);
                same("saveSnapshot(" + saved + ")", () -> model.saveSnapshot(saved), () -> boot.saveSnapshot(saved));
                break;
            case 4:
                int place = number(0, 1);
                same("restoreSnapshot(" + place + ")", () -> model.restoreSnapshot(place),
                        () -> boot.restoreSnapshot(place));
                break;
            default:
                if (oneOf(3)) {
                    load(oneOf(2) ? spoiledText() : text());
                } else {
                    long bytes = oneOf(3) ? 0 : random.nextLong();
                    same("append(" + bytes + ")", () -> model.append(bytes), () -> boot.append(bytes));
                }
                break;
        }
    }

    private void changePower() {
        int power = oneOf(2) ? -1 : oneOf(8) ? number(-1, 100000) : random.nextInt(30);
        same("setPower(" + power + ")", () -> model.setPower(power), () -> boot.setPower(power));
    }

    private void damage() {
        int row = number(0, 1);
        int mask = oneOf(2) ? 1 << random.nextInt(16) : number(0, 65535);
        if (oneOf(2)) {
            int index = number(0, model.words - 1);
            same("damage(" + row + ", " + index + ", " + mask + ")", () -> model.damage(row, index, mask),
                    () -> boot.damage(row, index, mask));
        } else {
            putRecord();
        }
        if (oneOf(2)) {
            int index = oneOf(3) ? 0 : number(0, model.journal - 1);
            same("damageJournal(" + row + ", " + index + ", " + mask + ")",
                    () -> model.damageJournal(row, index, mask), () -> boot.damageJournal(row, index, mask));
        }
    }

    /** Damage can make an erased word a right record, and so states that the device does not come to by itself. */
    private void putRecord() {
        int page = random.nextInt(2);
        int index = oneOf(4) ? 0 : random.nextInt(model.journal);
        int kind = index == 0 ? 6 : 1 + random.nextInt(6);
        int value = kind == 6 ? random.nextInt(256) : kind == 1 ? random.nextInt(8) : random.nextInt(2);
        int mask = 65535 - Devices.record(kind, value);
        same("damageJournal(" + page + ", " + index + ", " + mask + ")", () -> model.damageJournal(page, index, mask),
                () -> boot.damageJournal(page, index, mask));
    }

    // ---- calls that change nothing

    private void look() {
        int what = random.nextInt(4);
        if (what == 0) {
            lookAtDevice();
        } else if (what == 1) {
            lookAtFlash();
        } else if (what == 2) {
            lookAtJournal();
        } else {
            predict();
        }
    }

    private void lookAtDevice() {
        int a = number(0, 45);
        int b = number(0, 2);
        int c = number(0, 7);
        int d = number(0, 5);
        switch (random.nextInt(9)) {
            case 0:
                same("staged(" + a + ")", () -> model.staged(a), () -> boot.staged(a));
                break;
            case 1:
                same("setting(" + d + ")", () -> model.setting(d), () -> boot.setting(d));
                break;
            case 2:
                same("power()", () -> model.power, () -> boot.power());
                break;
            case 3:
                same("running()", () -> model.running, () -> boot.running());
                break;
            case 4:
                same("state()", () -> model.state, () -> boot.state());
                break;
            case 5:
                same("operations()", () -> model.operations, () -> boot.operations());
                break;
            case 6:
                same("logSize()", () -> model.logSize(), () -> boot.logSize());
                break;
            case 7:
                same("logEntry(" + a + ", " + b + ")", () -> model.logEntry(a, b), () -> boot.logEntry(a, b));
                break;
            default:
                same("eventCount(" + c + ")", () -> model.eventCount(c), () -> boot.eventCount(c));
                break;
        }
    }

    private void lookAtFlash() {
        int slot = number(0, 1);
        int index = number(0, model.words - 1);
        int area = number(0, 2);
        int page = number(0, model.words / model.page - 1);
        switch (random.nextInt(12)) {
            case 0:
                same("word(" + slot + ", " + index + ")", () -> model.word(slot, index), () -> boot.word(slot, index));
                break;
            case 1:
                same("journalWord(" + slot + ", " + index + ")", () -> model.journalWord(slot, index),
                        () -> boot.journalWord(slot, index));
                break;
            case 2:
                same("wear(" + area + ", " + page + ")", () -> model.wear(area, page), () -> boot.wear(area, page));
                break;
            case 3:
                same("mostWorn()", () -> model.mostWorn(), () -> boot.mostWorn());
                break;
            case 4:
                same("wornOut(" + slot + ")", () -> model.wornOut(slot), () -> boot.wornOut(slot));
                break;
            case 5:
                same("isWhole(" + slot + ")", () -> model.isWhole(slot) ? 1 : 0, () -> boot.isWhole(slot) ? 1 : 0);
                break;
            case 6:
                same("isBootable(" + slot + ")", () -> model.isBootable(slot) ? 1 : 0,
                        () -> boot.isBootable(slot) ? 1 : 0);
                break;
            case 7:
                same("checksum(" + slot + ")", () -> model.checksum(slot), () -> boot.checksum(slot));
                break;
            case 8:
                same("verify(" + slot + ")", () -> model.verify(slot), () -> boot.verify(slot));
                break;
            case 9:
                same("differentWords(" + slot + ")", () -> model.differentWords(slot),
                        () -> boot.differentWords(slot));
                break;
            case 10:
                same("differences()", () -> model.differences(), () -> boot.differences());
                break;
            default:
                same("zeroBits(" + slot + ")", () -> model.zeroBits(slot), () -> boot.zeroBits(slot));
                break;
        }
    }

    private void lookAtJournal() {
        int index = number(0, 12);
        int part = number(0, 2);
        int what = number(0, 4);
        switch (random.nextInt(8)) {
            case 0:
                same("activePage()", () -> model.activePage(), () -> boot.activePage());
                break;
            case 1:
                same("generation()", () -> model.generation(), () -> boot.generation());
                break;
            case 2:
                same("freeWords()", () -> model.freeWords(), () -> boot.freeWords());
                break;
            case 3:
                same("recordCount()", () -> model.recordCount(), () -> boot.recordCount());
                break;
            case 4:
                same("record(" + index + ", " + part + ")", () -> model.record(index, part),
                        () -> boot.record(index, part));
                break;
            case 5:
                same("spoiled()", () -> model.spoiled(), () -> boot.spoiled());
                break;
            case 6:
                same("recordsLeft()", () -> model.recordsLeft(), () -> boot.recordsLeft());
                break;
            default:
                same("told(" + what + ")", () -> model.told(what), () -> boot.told(what));
                break;
        }
    }

    private void predict() {
        int version = version();
        int cut = oneOf(3) ? number(0, 1000) : random.nextInt(40);
        int bootCut = oneOf(3) ? number(0, 1000) : random.nextInt(12);
        int what = number(0, 4);
        String v = "(" + version + ")";
        switch (random.nextInt(16)) {
            case 0:
                same("bootWould()", () -> model.bootWould(), () -> boot.bootWould());
                break;
            case 1:
                same("bootOperations()", () -> model.bootOperations(), () -> boot.bootOperations());
                break;
            case 2:
                same("updateOperations" + v, () -> model.anyUpdateOperations(version, false),
                        () -> boot.updateOperations(version));
                break;
            case 3:
                same("slotAfterCut(" + version + ", " + cut + ")", () -> model.slotAfterCut(version, cut),
                        () -> boot.slotAfterCut(version, cut));
                break;
            case 4:
                same("firstUnsafeCut" + v, () -> model.anyUnsafeCut(version, false),
                        () -> boot.firstUnsafeCut(version));
                break;
            case 5:
                same("cutsToNew" + v, () -> model.cutsToNew(version), () -> boot.cutsToNew(version));
                break;
            case 6:
                same("longestOldRun" + v, () -> model.longestOldRun(version), () -> boot.longestOldRun(version));
                break;
            case 7:
                same("updatesLeft" + v, () -> model.updatesLeft(version), () -> boot.updatesLeft(version));
                break;
            case 8:
                same("thriftyOperations" + v, () -> model.anyUpdateOperations(version, true),
                        () -> boot.thriftyOperations(version));
                break;
            case 9:
                same("thriftyPages()", () -> model.thriftyPages(), () -> boot.thriftyPages());
                break;
            case 10:
                same("firstUnsafeThriftyCut" + v, () -> model.anyUnsafeCut(version, true),
                        () -> boot.firstUnsafeThriftyCut(version));
                break;
            case 11:
                same("slotAfterTwoCuts(" + version + ", " + cut + ", " + bootCut + ")",
                        () -> model.slotAfterTwoCuts(version, cut, bootCut),
                        () -> boot.slotAfterTwoCuts(version, cut, bootCut));
                break;
            case 12:
                if (oneOf(3)) {
                    same("firstUnsafePair" + v, () -> model.firstUnsafePair(version),
                            () -> boot.firstUnsafePair(version));
                }
                break;
            case 13:
                same("toldAfterCut(" + version + ", " + cut + ", " + what + ")",
                        () -> model.toldAfterCut(version, cut, what), () -> boot.toldAfterCut(version, cut, what));
                break;
            case 14:
                same("bootsToRollback()", () -> model.bootsToRollback(), () -> boot.bootsToRollback());
                break;
            default:
                same("firstBootCut()", () -> model.firstBootCut(), () -> boot.firstBootCut());
                break;
        }
    }
}
