import java.util.Arrays;

/**
 * A bootloader with two image slots in flash memory, simulated operation by operation. The sections and promises
 * that comments name are those of the project's document.
 */
public final class TwinBoot {
    public static final int NONE = -1;
    public static final int FULL = -2;
    public static final int WRONG_STATE = -3;
    public static final int CUT = -4;
    public static final int TOO_OLD = -5;

    private static final int ERASED = 65535;
    private static final int WORN_ERASED = 65534;
    private static final int HIGH_BYTE = 65280;
    private static final int MOST_WORDS = 64;
    private static final int MOST_PAGES = 16;
    private static final int MOST_POWER = 100000;
    private static final int MOST_CUT = 1000;
    private static final int MOST_VERSION = 255;
    private static final int HEADER = 3;
    private static final int JOURNAL_ROW = 2;
    private static final int ERROR_BASE = 100;

    private static final int FLOOR_KIND = 1;
    private static final int GOOD_KIND = 2;
    private static final int NEW_KIND = 3;
    private static final int TRY_KIND = 4;
    private static final int BAD_KIND = 5;
    private static final int HEAD_KIND = 6;

    private static final int STATE_OFF = 0;
    private static final int STATE_RUNS = 1;
    private static final int STATE_WAITS = 2;

    private static final int EVENT_RUNS = 0;
    private static final int EVENT_CUT = 1;
    private static final int EVENT_NEW = 2;
    private static final int EVENT_GOOD = 3;
    private static final int EVENT_BAD = 4;
    private static final int EVENT_MOVED = 5;
    private static final int EVENT_FORMATTED = 6;
    private static final int EVENT_WAITS = 7;

    private final Text text;
    private final Device device;
    /** Predictions are played on this copy, so that they change nothing. */
    private final Device trial;
    private final Device afterCut;
    private final Device[] snapshots;
    private final boolean[] saved;

    public TwinBoot() {
        Text reader = new Text();
        Device made = new Device();
        made.begin(reader.plan);
        text = reader;
        device = made;
        trial = new Device();
        afterCut = new Device();
        snapshots = new Device[] {new Device(), new Device()};
        saved = new boolean[2];
    }

    // ---- texts and staged words

    public int append(long bytes) {
        return text.add(bytes);
    }

    public int load() {
        if (!text.read()) {
            return -ERROR_BASE - text.errorAt;
        }
        device.begin(text.plan);
        return (device.flash.holdsImage(0) ? 1 : 0) + (device.flash.holdsImage(1) ? 1 : 0);
    }

    public int loadError() {
        return text.error;
    }

    public int stage(int word) throws IllegalArgumentException {
        requireRange(word, 0, ERASED);
        if (device.stagedCount >= device.flash.room()) {
            return FULL;
        }
        device.staged[HEADER + device.stagedCount] = word;
        device.stagedCount++;
        return device.stagedCount;
    }

    public int staged(int index) {
        if (index < 0 || index >= device.stagedCount) {
            return NONE;
        }
        return device.staged[HEADER + index];
    }

    public int clearStaged() {
        int count = device.stagedCount;
        device.stagedCount = 0;
        return count;
    }

    public int setting(int what) throws IllegalArgumentException {
        requireRange(what, 0, 5);
        switch (what) {
            case 0:
                return device.flash.words;
            case 1:
                return device.flash.page;
            case 2:
                return device.flash.journal;
            case 3:
                return device.mostTries;
            case 4:
                return device.stagedCount;
            default:
                return device.flash.life;
        }
    }

    // ---- running

    public int setPower(int operations) throws IllegalArgumentException {
        requireRange(operations, NONE, MOST_POWER);
        int left = device.flash.power;
        device.flash.power = operations;
        return left;
    }

    public int power() {
        return device.flash.power;
    }

    public int boot() {
        return device.startUp();
    }

    public int running() {
        return device.running;
    }

    public int state() {
        return device.state;
    }

    public boolean off() {
        boolean wasOn = device.state != STATE_OFF;
        device.switchOff();
        return wasOn;
    }

    public int update(int version) throws IllegalArgumentException {
        requireVersion(version);
        return device.updateOther(version, false);
    }

    public int thriftyUpdate(int version) throws IllegalArgumentException {
        requireVersion(version);
        return device.updateOther(version, true);
    }

    public int mirror() {
        return device.mirrorRunning();
    }

    public int moveJournal() {
        return device.moveByHand();
    }

    public int confirm() {
        return device.confirmRunning();
    }

    public int recover(int slot, int version) throws IllegalArgumentException {
        requireSlot(slot);
        requireVersion(version);
        return device.recoverSlot(slot, version);
    }

    // ---- flash

    public int word(int slot, int index) throws IllegalArgumentException {
        requireSlot(slot);
        if (index < 0 || index >= device.flash.words) {
            return NONE;
        }
        return device.flash.cells[slot][index];
    }

    public int journalWord(int page, int index) throws IllegalArgumentException {
        requireSlot(page);
        if (index < 0 || index >= device.flash.journal) {
            return NONE;
        }
        return device.flash.cells[JOURNAL_ROW + page][index];
    }

    public int wear(int area, int page) throws IllegalArgumentException, IndexOutOfBoundsException {
        requireRange(area, 0, 2);
        requireIndex(page, device.flash.pagesOf(area));
        return device.flash.wear[area][page];
    }

    public int mostWorn() {
        Flash flash = device.flash;
        int found = 0;
        int most = -1;
        for (int area = 0; area <= 2; area++) {
            for (int page = 0; page < flash.pagesOf(area); page++) {
                if (flash.wear[area][page] > most) {
                    most = flash.wear[area][page];
                    found = 100 * area + page;
                }
            }
        }
        return found;
    }

    public int wornOut(int slot) throws IllegalArgumentException {
        requireSlot(slot);
        Flash flash = device.flash;
        int pages = 0;
        for (int page = 0; page < flash.pages; page++) {
            if (flash.life > 0 && flash.wear[slot][page] > flash.life) {
                pages |= 1 << page;
            }
        }
        return pages;
    }

    public int operations() {
        return device.flash.operations;
    }

    public boolean isWhole(int slot) throws IllegalArgumentException {
        requireSlot(slot);
        return device.flash.holdsImage(slot);
    }

    public boolean isBootable(int slot) throws IllegalArgumentException {
        requireSlot(slot);
        readLedger();
        return device.canStart(slot);
    }

    public int checksum(int slot) throws IllegalArgumentException {
        requireSlot(slot);
        return device.flash.sumOf(slot);
    }

    public int verify(int slot) throws IllegalArgumentException {
        requireSlot(slot);
        int[] row = device.flash.cells[slot];
        for (int k = 0; k < device.stagedCount; k++) {
            if (device.staged[HEADER + k] != row[HEADER + k]) {
                return k;
            }
        }
        return row[1] == device.stagedCount ? NONE : device.stagedCount;
    }

    public int differentWords(int slot) throws IllegalArgumentException {
        requireSlot(slot);
        if (!device.flash.holdsImage(slot)) {
            return 0;
        }
        int[] row = device.flash.cells[slot];
        int different = 0;
        for (int k = 0; k < row[1]; k++) {
            if (!standsBefore(row, HEADER + k)) {
                different++;
            }
        }
        return different;
    }

    public int differences() {
        int[] first = device.flash.cells[0];
        int[] second = device.flash.cells[1];
        int different = 0;
        for (int index = 0; index < device.flash.words; index++) {
            if (first[index] != second[index]) {
                different++;
            }
        }
        return different;
    }

    public int zeroBits(int slot) throws IllegalArgumentException {
        requireSlot(slot);
        int[] row = device.flash.cells[slot];
        int bits = 0;
        for (int index = 0; index < device.flash.words; index++) {
            bits += 16 - Integer.bitCount(row[index]);
        }
        return bits;
    }

    public int damage(int slot, int index, int mask) throws IllegalArgumentException, IndexOutOfBoundsException {
        requireSlot(slot);
        requireRange(mask, 0, ERASED);
        requireIndex(index, device.flash.words);
        return device.flash.loseBits(slot, index, mask);
    }

    public int damageJournal(int page, int index, int mask)
            throws IllegalArgumentException, IndexOutOfBoundsException {
        requireSlot(page);
        requireRange(mask, 0, ERASED);
        requireIndex(index, device.flash.journal);
        return device.flash.loseBits(JOURNAL_ROW + page, index, mask);
    }

    // ---- the journal

    public int activePage() {
        return readLedger().page;
    }

    public int generation() {
        return readLedger().generation;
    }

    public int freeWords() {
        Ledger ledger = readLedger();
        return ledger.page == NONE ? 0 : device.flash.journal - ledger.next;
    }

    public int recordCount() {
        return readLedger().count;
    }

    public int record(int index, int what) throws IllegalArgumentException {
        requireRange(what, 0, 2);
        Ledger ledger = readLedger();
        int place = ledger.placeOf(index, device.flash);
        if (place == NONE) {
            return NONE;
        }
        int word = device.flash.cells[JOURNAL_ROW + ledger.page][place];
        if (what == 0) {
            return Ledger.kindOf(word);
        }
        return what == 1 ? Ledger.valueOf(word) : place;
    }

    public int spoiled() {
        return readLedger().spoiled;
    }

    public int told(int what) throws IllegalArgumentException {
        requireRange(what, 0, 4);
        return readLedger().part(what);
    }

    // ---- predictions

    public int bootWould() {
        prepareTrial(NONE);
        return trial.startUp();
    }

    public int bootOperations() {
        prepareTrial(NONE);
        trial.startUp();
        return trial.flash.operations - device.flash.operations;
    }

    public int updateOperations(int version) throws IllegalArgumentException {
        requireVersion(version);
        prepareTrial(NONE);
        return trial.updateOther(version, false);
    }

    public int slotAfterCut(int version, int cut) throws IllegalArgumentException {
        requireVersion(version);
        requireCut(cut);
        return bootAfterCut(version, cut, false);
    }

    public int firstUnsafeCut(int version) throws IllegalArgumentException {
        requireVersion(version);
        return unsafeCut(version, false);
    }

    public int cutsToNew(int version) throws IllegalArgumentException {
        requireVersion(version);
        int cuts = 0;
        for (int cut = 0; cut <= MOST_CUT; cut++) {
            int slot = bootAfterCut(version, cut, false);
            if (slot < NONE) {
                return slot == FULL ? cuts : slot;
            }
            if (slot == 1 - device.running) {
                cuts++;
            }
        }
        return cuts;
    }

    public int longestOldRun(int version) throws IllegalArgumentException {
        requireVersion(version);
        int longest = 0;
        int run = 0;
        for (int cut = 0; cut <= MOST_CUT; cut++) {
            int slot = bootAfterCut(version, cut, false);
            if (slot < NONE) {
                return slot == FULL ? longest : slot;
            }
            run = slot == device.running ? run + 1 : 0;
            longest = Math.max(longest, run);
        }
        return longest;
    }

    public int updatesLeft(int version) throws IllegalArgumentException {
        requireVersion(version);
        prepareTrial(NONE);
        for (int done = 0; done < 60; done++) {
            trial.stagedCount = device.stagedCount;
            int updated = 1 - trial.running;
            int answer = trial.updateOther(version, false);
            if (answer < 0) {
                return done == 0 ? answer - ERROR_BASE : done;
            }
            if (trial.startUp() != updated) {
                return done;
            }
            trial.confirmRunning();
        }
        return 60;
    }

    public int thriftyOperations(int version) throws IllegalArgumentException {
        requireVersion(version);
        prepareTrial(NONE);
        return trial.updateOther(version, true);
    }

    public int thriftyPages() {
        if (device.running == NONE || device.stagedCount == 0) {
            return 0;
        }
        int pages = 0;
        for (int page = 0; page < device.flash.pages; page++) {
            if (device.flash.mustErase(1 - device.running, page, device.staged, device.stagedCount)) {
                pages |= 1 << page;
            }
        }
        return pages;
    }

    public int firstUnsafeThriftyCut(int version) throws IllegalArgumentException {
        requireVersion(version);
        return unsafeCut(version, true);
    }

    public int slotAfterTwoCuts(int version, int cut, int bootCut) throws IllegalArgumentException {
        requireVersion(version);
        requireCut(cut);
        requireCut(bootCut);
        prepareTrial(cut);
        int answer = trial.updateOther(version, false);
        if (answer == CUT) {
            return bootTwice(bootCut);
        }
        return answer < 0 ? answer : FULL;
    }

    public int firstUnsafePair(int version) throws IllegalArgumentException {
        requireVersion(version);
        for (int cut = 0; cut <= MOST_CUT; cut++) {
            prepareTrial(cut);
            int answer = trial.updateOther(version, false);
            if (answer != CUT) {
                return answer < 0 ? answer - ERROR_BASE : NONE;
            }
            afterCut.copyFrom(trial);
            for (int bootCut = 0; bootCut <= 11; bootCut++) {
                trial.copyFrom(afterCut);
                if (bootTwice(bootCut) == NONE) {
                    return 100 * cut + bootCut;
                }
            }
        }
        return NONE;
    }

    public int toldAfterCut(int version, int cut, int what) throws IllegalArgumentException {
        requireVersion(version);
        requireCut(cut);
        requireRange(what, 0, 4);
        int slot = bootAfterCut(version, cut, false);
        if (slot < NONE) {
            return slot - ERROR_BASE;
        }
        trial.ledger.readFrom(trial.flash);
        return trial.ledger.part(what);
    }

    public int bootsToRollback() {
        prepareTrial(NONE);
        int before = device.running;
        for (int boots = 1; boots <= 10; boots++) {
            int slot = trial.startUp();
            if (slot == NONE) {
                return NONE;
            }
            if (before == NONE) {
                before = slot;
            }
            if (slot != before) {
                return boots;
            }
        }
        return NONE;
    }

    public int firstBootCut() {
        prepareTrial(NONE);
        int uncut = trial.startUp();
        for (int cut = 0; cut <= MOST_CUT; cut++) {
            prepareTrial(cut);
            if (trial.startUp() != CUT) {
                return NONE;
            }
            trial.flash.power = NONE;
            if (trial.startUp() != uncut) {
                return cut;
            }
        }
        return NONE;
    }

    public int recordsLeft() {
        Ledger ledger = readLedger();
        return device.flash.journal - (ledger.page == NONE ? 1 : ledger.next);
    }

    // ---- log and snapshots

    public int logSize() {
        return device.log.size();
    }

    public int logEntry(int index, int what) throws IllegalArgumentException {
        requireRange(what, 0, 2);
        return device.log.part(index, what);
    }

    public int eventCount(int event) throws IllegalArgumentException {
        requireRange(event, 0, 7);
        return device.log.counts[event];
    }

    public int saveSnapshot(int place) throws IllegalArgumentException {
        requireSlot(place);
        snapshots[place].copyFrom(device);
        saved[place] = true;
        return device.flash.operations;
    }

    public int restoreSnapshot(int place) throws IllegalArgumentException {
        requireSlot(place);
        if (!saved[place]) {
            return NONE;
        }
        device.copyFrom(snapshots[place]);
        return device.flash.operations;
    }

    // ---- what the methods above share

    private static void requireRange(int number, int least, int most) throws IllegalArgumentException {
        if (number < least || number > most) {
            throw new IllegalArgumentException("a number is out of range");
        }
    }

    /** Slots, journal pages and places of snapshots are all 0 or 1. */
    private static void requireSlot(int slot) throws IllegalArgumentException {
        requireRange(slot, 0, 1);
    }

    private static void requireVersion(int version) throws IllegalArgumentException {
        requireRange(version, 1, MOST_VERSION);
    }

    private static void requireCut(int cut) throws IllegalArgumentException {
        requireRange(cut, 0, MOST_CUT);
    }

    private static void requireIndex(int index, int size) throws IndexOutOfBoundsException {
        if (index < 0 || index >= size) {
            throw new IndexOutOfBoundsException("there is no such place");
        }
    }

    private static boolean standsBefore(int[] row, int index) {
        for (int earlier = HEADER; earlier < index; earlier++) {
            if (row[earlier] == row[index]) {
                return true;
            }
        }
        return false;
    }

    private Ledger readLedger() {
        device.ledger.readFrom(device.flash);
        return device.ledger;
    }

    private void prepareTrial(int power) {
        trial.copyFrom(device);
        trial.flash.power = power;
    }

    /** Answers the slot that boots behind the cut or NONE; what is below NONE is an error of the update, or FULL. */
    private int bootAfterCut(int version, int cut, boolean thrifty) {
        prepareTrial(cut);
        int answer = trial.updateOther(version, thrifty);
        trial.flash.power = NONE;
        if (answer == CUT) {
            return trial.startUp();
        }
        return answer < 0 ? answer : FULL;
    }

    private int bootTwice(int bootCut) {
        trial.flash.power = bootCut;
        int slot = trial.startUp();
        trial.flash.power = NONE;
        return slot == CUT ? trial.startUp() : slot;
    }

    private int unsafeCut(int version, boolean thrifty) {
        for (int cut = 0; cut <= MOST_CUT; cut++) {
            int slot = bootAfterCut(version, cut, thrifty);
            if (slot == NONE) {
                return cut;
            }
            if (slot < NONE) {
                return slot == FULL ? NONE : slot - ERROR_BASE;
            }
        }
        return NONE;
    }

    /** What a text tells (section 5); at first what "flash 16 4 12" tells. */
    private static final class Plan {
        static final int TRIES = 1;
        static final int LIFE = 2;
        static final int FLOOR = 4;
        static final int GOOD = 8;
        static final int IMAGE = 16;

        final int[][] images = new int[2][MOST_WORDS];
        int words;
        int page;
        int journal;
        int tries;
        int life;
        int floor;
        int good;
        /** The statements that stood: the sum of the constants above, where an image of slot 1 counts twice. */
        int given;

        Plan() {
            clear();
        }

        void clear() {
            words = 16;
            page = 4;
            journal = 12;
            tries = 3;
            life = 0;
            floor = 0;
            good = NONE;
            given = 0;
            Arrays.fill(images[0], ERASED);
            Arrays.fill(images[1], ERASED);
        }
    }

    /** The input buffer and its reader. */
    private static final class Text {
        static final int MOST_BYTES = 900;
        static final int ERROR_PLACE = 1;
        static final int ERROR_RANGE = 2;
        static final int ERROR_MULTIPLE = 3;
        static final int ERROR_AGAIN = 4;
        /** Greater than every limit of a number, and small enough to be multiplied by 10. */
        static final int HUGE = 1000000;

        final byte[] bytes = new byte[MOST_BYTES];
        final Plan plan = new Plan();
        int length;
        int at;
        int number;
        int numberAt;
        int error;
        int errorAt;

        int add(long eight) {
            int more = 0;
            for (int shift = 56; shift >= 0; shift -= 8) {
                more += (eight >>> shift & 255) != 0 ? 1 : 0;
            }
            if (length + more > MOST_BYTES) {
                return FULL;
            }
            for (int shift = 56; shift >= 0; shift -= 8) {
                if ((eight >>> shift & 255) != 0 && length < MOST_BYTES) {
                    bytes[length] = (byte) (eight >>> shift);
                    length++;
                }
            }
            return length;
        }

        boolean read() {
            plan.clear();
            at = 0;
            error = 0;
            errorAt = 0;
            boolean right = readFlash();
            for (int statement = 0; right && !isAtEnd() && statement < MOST_BYTES; statement++) {
                right = readSemicolon() && readStatement();
            }
            // The plan counts only if all was right; so a statement may leave a wrong number in it.
            length = 0;
            return right;
        }

        private boolean fail(int kind, int position) {
            error = kind;
            errorAt = position;
            return false;
        }

        private void skipSpaces() {
            while (at < length && bytes[at] == ' ') {
                at++;
            }
        }

        private boolean isAtEnd() {
            skipSpaces();
            return at >= length;
        }

        private boolean isAtDigit() {
            skipSpaces();
            return at < length && bytes[at] >= '0' && bytes[at] <= '9';
        }

        private boolean readSemicolon() {
            if (at >= length || bytes[at] != ';') {
                return fail(ERROR_PLACE, at);
            }
            at++;
            return true;
        }

        /** Goes behind a word and answers where it starts. */
        private int passWord() {
            skipSpaces();
            int start = at;
            while (at < length && bytes[at] >= 'a' && bytes[at] <= 'z') {
                at++;
            }
            return start;
        }

        private boolean isWord(int start, String name) {
            if (at - start != name.length()) {
                return false;
            }
            for (int i = 0; i < name.length(); i++) {
                if (bytes[start + i] != name.charAt(i)) {
                    return false;
                }
            }
            return true;
        }

        private boolean readNumber(int least, int most) {
            if (!isAtDigit()) {
                return fail(ERROR_PLACE, at);
            }
            numberAt = at;
            number = 0;
            while (at < length && bytes[at] >= '0' && bytes[at] <= '9') {
                number = Math.min(HUGE, 10 * number + bytes[at] - '0');
                at++;
            }
            if (number < least || number > most) {
                return fail(ERROR_RANGE, numberAt);
            }
            return true;
        }

        private boolean readFlash() {
            int start = passWord();
            if (!isWord(start, "flash")) {
                return fail(ERROR_PLACE, start);
            }
            if (!readNumber(8, MOST_WORDS)) {
                return false;
            }
            plan.words = number;
            if (!readNumber(4, MOST_PAGES)) {
                return false;
            }
            plan.page = number;
            if (plan.page == 0 || plan.words % plan.page != 0) {
                return fail(ERROR_MULTIPLE, numberAt);
            }
            if (!readNumber(12, 32)) {
                return false;
            }
            plan.journal = number;
            return true;
        }

        private boolean readStatement() {
            int start = passWord();
            boolean right;
            if (isWord(start, "image")) {
                right = readImage();
            } else if (isWord(start, "tries")) {
                right = readOnce(Plan.TRIES, start, 1, 3);
                plan.tries = number;
            } else if (isWord(start, "life")) {
                right = readOnce(Plan.LIFE, start, 0, 1000);
                plan.life = number;
            } else if (isWord(start, "floor")) {
                right = readOnce(Plan.FLOOR, start, 0, MOST_VERSION);
                plan.floor = number;
            } else if (isWord(start, "good")) {
                right = readOnce(Plan.GOOD, start, 0, 1);
                plan.good = number;
            } else {
                right = fail(ERROR_PLACE, start);
            }
            return right;
        }

        private boolean readOnce(int statement, int start, int least, int most) {
            return claim(statement, start) && readNumber(least, most);
        }

        private boolean claim(int statement, int position) {
            if ((plan.given & statement) != 0) {
                return fail(ERROR_AGAIN, position);
            }
            plan.given |= statement;
            return true;
        }

        private boolean readImage() {
            if (!readNumber(0, 1)) {
                return false;
            }
            int[] image = plan.images[number];
            if (!claim(Plan.IMAGE << number, numberAt) || !readNumber(1, MOST_VERSION)) {
                return false;
            }
            image[0] = number;
            int count = 0;
            do {
                if (count >= plan.words - HEADER) {
                    return fail(ERROR_PLACE, at);
                }
                if (!readNumber(0, ERASED)) {
                    return false;
                }
                image[HEADER + count] = number;
                count++;
            } while (count < MOST_WORDS && isAtDigit());
            image[1] = count;
            image[2] = Flash.sum(image[0], count, image);
            return true;
        }
    }

    /** The words of the slots and the journal pages, and the operations that change them (sections 1 and 2). */
    private static final class Flash {
        /** Rows 0 and 1 are the slots, rows 2 and 3 the journal pages. */
        final int[][] cells = new int[4][MOST_WORDS];
        /** Rows 0 and 1 are for the pages of the slots, row 2 for the journal pages. */
        final int[][] wear = new int[3][MOST_PAGES];
        int words;
        int page;
        int pages;
        int journal;
        int life;
        int power;
        int operations;

        void begin(Plan plan) {
            words = plan.words;
            page = plan.page;
            pages = plan.page > 0 ? plan.words / plan.page : 0;
            journal = plan.journal;
            life = plan.life;
            power = NONE;
            operations = 0;
            for (int area = 0; area <= 2; area++) {
                Arrays.fill(wear[area], 0);
            }
            for (int slot = 0; slot <= 1; slot++) {
                System.arraycopy(plan.images[slot], 0, cells[slot], 0, MOST_WORDS);
                Arrays.fill(cells[JOURNAL_ROW + slot], ERASED);
            }
            int[] row = cells[JOURNAL_ROW];
            int next = 0;
            row[next++] = Ledger.wordOf(HEAD_KIND, 0);
            if (plan.floor > 0) {
                row[next++] = Ledger.wordOf(FLOOR_KIND, plan.floor);
            }
            if (plan.good != NONE) {
                row[next] = Ledger.wordOf(GOOD_KIND, plan.good);
            }
        }

        void copyFrom(Flash other) {
            for (int row = 0; row <= 3; row++) {
                System.arraycopy(other.cells[row], 0, cells[row], 0, MOST_WORDS);
            }
            for (int area = 0; area <= 2; area++) {
                System.arraycopy(other.wear[area], 0, wear[area], 0, MOST_PAGES);
            }
            words = other.words;
            page = other.page;
            pages = other.pages;
            journal = other.journal;
            life = other.life;
            power = other.power;
            operations = other.operations;
        }

        int room() {
            return words - HEADER;
        }

        int pagesOf(int area) {
            return area == 2 ? 2 : pages;
        }

        /** Counts an operation; answers whether there is power for the whole of it. */
        private boolean takePower() {
            operations++;
            if (power == NONE) {
                return true;
            }
            if (power == 0) {
                return false;
            }
            power--;
            return true;
        }

        /** Answers false if the write was torn; so do the erasures. */
        boolean write(int row, int index, int value) {
            boolean whole = takePower();
            cells[row][index] &= whole ? value : value | HIGH_BYTE;
            return whole;
        }

        boolean eraseSlotPage(int slot, int number) {
            boolean whole = takePower();
            boolean worn = life > 0 && wear[slot][number] >= life;
            int from = number * page;
            int count = whole ? page : page / 2;
            Arrays.fill(cells[slot], from, from + count, worn ? WORN_ERASED : ERASED);
            wear[slot][number]++;
            return whole;
        }

        boolean eraseJournalPage(int number) {
            boolean whole = takePower();
            Arrays.fill(cells[JOURNAL_ROW + number], 0, whole ? journal : journal / 2, ERASED);
            wear[2][number]++;
            return whole;
        }

        int loseBits(int row, int index, int mask) {
            int lost = Integer.bitCount(cells[row][index] & mask);
            cells[row][index] &= ~mask;
            return lost;
        }

        static int sum(int version, int length, int[] image) {
            int sum = version + 3 * length;
            for (int k = 0; k < length && HEADER + k < image.length; k++) {
                sum += (k + 1) * image[HEADER + k];
            }
            return sum & ERASED;
        }

        /** Answers NONE if the version or the length is out of its range. */
        int sumOf(int slot) {
            int version = cells[slot][0];
            int length = cells[slot][1];
            if (version < 1 || version > MOST_VERSION || length < 1 || length > room()) {
                return NONE;
            }
            return sum(version, length, cells[slot]);
        }

        boolean holdsImage(int slot) {
            return sumOf(slot) == cells[slot][2];
        }

        /** Tells whether an update that spares erasures has to erase a page for this payload. */
        boolean mustErase(int slot, int number, int[] image, int length) {
            int from = Math.max(HEADER, number * page);
            int end = Math.min(HEADER + length, number * page + page);
            for (int index = from; index < end; index++) {
                if ((cells[slot][index] & image[index]) != image[index]) {
                    return true;
                }
            }
            return number == 0;
        }

        /** Writes what stands in an image from its payload on; answers false if the power was cut. */
        boolean writeImage(int slot, int version, int[] image, int length, boolean thrifty) {
            for (int number = 0; number < pages; number++) {
                boolean erases = !thrifty || mustErase(slot, number, image, length);
                if (erases && !eraseSlotPage(slot, number)) {
                    return false;
                }
            }
            for (int index = HEADER; index < HEADER + length; index++) {
                if (cells[slot][index] != image[index] && !write(slot, index, image[index])) {
                    return false;
                }
            }
            // Word 0 comes last: until then the slot is not whole, whatever the cut leaves.
            return write(slot, 1, length) && write(slot, 2, sum(version, length, image)) && write(slot, 0, version);
        }
    }

    /** What the journal of a flash tells (section 3), as it was when it was read. */
    private static final class Ledger {
        int page;
        int generation;
        /** The index of the first free word of the active page; JOURNAL if there is none. */
        int next;
        int count;
        int spoiled;
        int floor;
        int good;
        int fresh;
        int tries;
        int bad;

        static int wordOf(int kind, int value) {
            return 4096 * kind + 16 * value + (kind + value / 16 + value % 16) % 16;
        }

        static int kindOf(int word) {
            return word >> 12;
        }

        static int valueOf(int word) {
            return word >> 4 & 255;
        }

        /** Answers the kind of a right record, and 0 for any other word. */
        private static int rightKind(int word) {
            int kind = word >> 12;
            int value = word >> 4 & 255;
            boolean namesSlot = kind >= GOOD_KIND && kind <= BAD_KIND;
            boolean isChecked = (word & 15) == (kind + value / 16 + value % 16) % 16;
            if (kind < FLOOR_KIND || kind > HEAD_KIND || !isChecked || namesSlot && value > 1) {
                return 0;
            }
            return kind;
        }

        private static boolean isEntry(int word) {
            int kind = rightKind(word);
            return kind != 0 && kind != HEAD_KIND;
        }

        private static int activePageOf(int first, int second) {
            if (rightKind(first) != HEAD_KIND) {
                return rightKind(second) == HEAD_KIND ? 1 : NONE;
            }
            if (rightKind(second) != HEAD_KIND) {
                return 0;
            }
            int ahead = valueOf(second) - valueOf(first) & 255;
            return ahead >= 1 && ahead <= 127 ? 1 : 0;
        }

        void readFrom(Flash flash) {
            page = activePageOf(flash.cells[JOURNAL_ROW][0], flash.cells[JOURNAL_ROW + 1][0]);
            generation = NONE;
            next = 0;
            count = 0;
            spoiled = 0;
            floor = 0;
            good = NONE;
            fresh = NONE;
            tries = 0;
            bad = 0;
            if (page == NONE) {
                return;
            }
            int[] row = flash.cells[JOURNAL_ROW + page];
            generation = valueOf(row[0]);
            next = 1;
            for (int index = 1; index < flash.journal; index++) {
                int word = row[index];
                if (word == ERASED) {
                    continue;
                }
                next = index + 1;
                if (isEntry(word)) {
                    count++;
                    take(kindOf(word), valueOf(word));
                } else {
                    spoiled++;
                }
            }
        }

        private void take(int kind, int value) {
            switch (kind) {
                case FLOOR_KIND:
                    floor = Math.max(floor, value);
                    break;
                case GOOD_KIND:
                    good = value;
                    bad &= ~(1 << value);
                    forgetFresh(value);
                    break;
                case NEW_KIND:
                    fresh = value;
                    bad &= ~(1 << value);
                    tries = 0;
                    break;
                case TRY_KIND:
                    tries += value == fresh ? 1 : 0;
                    break;
                default:
                    bad |= 1 << value;
                    forgetFresh(value);
                    good = value == good ? NONE : good;
                    break;
            }
        }

        private void forgetFresh(int slot) {
            if (slot == fresh) {
                fresh = NONE;
                tries = 0;
            }
        }

        boolean isBad(int slot) {
            return (bad >> slot & 1) != 0;
        }

        /** Answers the index of the word of a record; NONE if there is no such record. */
        int placeOf(int wanted, Flash flash) {
            if (wanted < 0 || wanted >= count || page == NONE) {
                return NONE;
            }
            int[] row = flash.cells[JOURNAL_ROW + page];
            int before = 0;
            for (int index = 1; index < flash.journal; index++) {
                if (isEntry(row[index])) {
                    if (before == wanted) {
                        return index;
                    }
                    before++;
                }
            }
            return NONE;
        }

        int part(int what) {
            switch (what) {
                case 0:
                    return floor;
                case 1:
                    return good;
                case 2:
                    return fresh;
                case 3:
                    return tries;
                default:
                    return bad;
            }
        }
    }

    /** The latest events, and how many there were of each sort (section 6). */
    private static final class Log {
        static final int KEPT = 40;

        final int[] events = new int[KEPT];
        final int[] numbers = new int[KEPT];
        final int[] times = new int[KEPT];
        final int[] counts = new int[8];
        int total;

        void clear() {
            total = 0;
            Arrays.fill(counts, 0);
        }

        void copyFrom(Log other) {
            System.arraycopy(other.events, 0, events, 0, KEPT);
            System.arraycopy(other.numbers, 0, numbers, 0, KEPT);
            System.arraycopy(other.times, 0, times, 0, KEPT);
            System.arraycopy(other.counts, 0, counts, 0, counts.length);
            total = other.total;
        }

        void note(int event, int number, int time) {
            int place = total % KEPT;
            events[place] = event;
            numbers[place] = number;
            times[place] = time;
            counts[event]++;
            total++;
        }

        int size() {
            return Math.min(total, KEPT);
        }

        int part(int index, int what) {
            if (index < 0 || index >= size()) {
                return NONE;
            }
            int place = (total - size() + index) % KEPT;
            if (what == 0) {
                return events[place];
            }
            return what == 1 ? numbers[place] : times[place];
        }
    }

    /** The whole device: all that a snapshot contains. */
    private static final class Device {
        /** FLOOR, GOOD, both slots BAD, NEW and three times TRY. */
        static final int MOST_MOVED = 8;
        static final int MOST_TRIES_MOVED = 3;

        final Flash flash = new Flash();
        final Log log = new Log();
        /** Not a part of the device's state: it is read from the flash before it is used. */
        final Ledger ledger = new Ledger();
        final int[] moved = new int[MOST_MOVED];
        /** The staged words lie from index 3 on, as a payload lies in a slot. */
        final int[] staged = new int[MOST_WORDS];
        int stagedCount;
        int mostTries;
        int state;
        int running;

        void begin(Plan plan) {
            flash.begin(plan);
            log.clear();
            stagedCount = 0;
            mostTries = plan.tries;
            switchOff();
        }

        void copyFrom(Device other) {
            flash.copyFrom(other.flash);
            log.copyFrom(other.log);
            System.arraycopy(other.staged, 0, staged, 0, MOST_WORDS);
            stagedCount = other.stagedCount;
            mostTries = other.mostTries;
            state = other.state;
            running = other.running;
        }

        void switchOff() {
            state = STATE_OFF;
            running = NONE;
        }

        private void note(int event, int number) {
            log.note(event, number, flash.operations);
        }

        private int losePower() {
            switchOff();
            note(EVENT_CUT, 0);
            return CUT;
        }

        /** Needs a ledger that has just been read. */
        boolean canStart(int slot) {
            return flash.holdsImage(slot) && flash.cells[slot][0] >= ledger.floor && !ledger.isBad(slot);
        }

        // The journal's actions answer false if the power was cut.

        private boolean formatJournal() {
            if (!flash.eraseJournalPage(0) || !flash.write(JOURNAL_ROW, 0, Ledger.wordOf(HEAD_KIND, 0))) {
                return false;
            }
            note(EVENT_FORMATTED, 0);
            return true;
        }

        /** Needs a ledger that has just been read, and an active page in it. */
        private boolean moveRecords() {
            int target = 1 - ledger.page;
            int row = JOURNAL_ROW + target;
            if (!flash.eraseJournalPage(target)) {
                return false;
            }
            int count = gatherRecords();
            for (int k = 0; k < count; k++) {
                if (!flash.write(row, 1 + k, moved[k])) {
                    return false;
                }
            }
            if (!flash.write(row, 0, Ledger.wordOf(HEAD_KIND, ledger.generation + 1 & 255))) {
                return false;
            }
            note(EVENT_MOVED, target);
            return true;
        }

        private int gatherRecords() {
            int count = 0;
            if (ledger.floor > 0) {
                moved[count++] = Ledger.wordOf(FLOOR_KIND, ledger.floor);
            }
            if (ledger.good != NONE) {
                moved[count++] = Ledger.wordOf(GOOD_KIND, ledger.good);
            }
            for (int slot = 0; slot <= 1; slot++) {
                if (ledger.isBad(slot)) {
                    moved[count++] = Ledger.wordOf(BAD_KIND, slot);
                }
            }
            if (ledger.fresh != NONE) {
                moved[count++] = Ledger.wordOf(NEW_KIND, ledger.fresh);
                for (int tries = 0; tries < ledger.tries && tries < MOST_TRIES_MOVED; tries++) {
                    moved[count++] = Ledger.wordOf(TRY_KIND, ledger.fresh);
                }
            }
            return count;
        }

        /** Needs a ledger that has just been read, and reads it again behind the record. */
        private boolean appendRecord(int kind, int value) {
            boolean hasPage = ledger.page != NONE;
            if (!hasPage || ledger.next >= flash.journal) {
                boolean hasRoom = hasPage ? moveRecords() : formatJournal();
                if (!hasRoom) {
                    return false;
                }
                ledger.readFrom(flash);
            }
            if (!flash.write(JOURNAL_ROW + ledger.page, ledger.next, Ledger.wordOf(kind, value))) {
                return false;
            }
            noteRecord(kind, value);
            ledger.readFrom(flash);
            return true;
        }

        private void noteRecord(int kind, int value) {
            if (kind == NEW_KIND) {
                note(EVENT_NEW, value);
            } else if (kind == GOOD_KIND) {
                note(EVENT_GOOD, value);
            } else if (kind == BAD_KIND) {
                note(EVENT_BAD, value);
            }
        }

        // The device's actions answer as the calls of the face do.

        int startUp() {
            switchOff();
            ledger.readFrom(flash);
            if (ledger.page == NONE) {
                if (!formatJournal()) {
                    return losePower();
                }
                ledger.readFrom(flash);
            }
            int fresh = ledger.fresh;
            if (fresh != NONE) {
                boolean worthTrying = canStart(fresh) && ledger.tries < mostTries;
                if (!appendRecord(worthTrying ? TRY_KIND : BAD_KIND, fresh)) {
                    return losePower();
                }
                if (worthTrying) {
                    return run(fresh);
                }
            }
            if (ledger.good != NONE && canStart(ledger.good)) {
                return run(ledger.good);
            }
            if (canStart(0)) {
                return run(0);
            }
            return canStart(1) ? run(1) : waitForRecovery();
        }

        private int run(int slot) {
            state = STATE_RUNS;
            running = slot;
            note(EVENT_RUNS, slot);
            return slot;
        }

        private int waitForRecovery() {
            state = STATE_WAITS;
            note(EVENT_WAITS, 0);
            return NONE;
        }

        private boolean runsGoodSlot() {
            ledger.readFrom(flash);
            return running != NONE && running == ledger.good;
        }

        int updateOther(int version, boolean thrifty) {
            if (!runsGoodSlot() || stagedCount == 0) {
                return WRONG_STATE;
            }
            if (version < ledger.floor) {
                return TOO_OLD;
            }
            int before = flash.operations;
            int slot = 1 - running;
            if (!flash.writeImage(slot, version, staged, stagedCount, thrifty) || !appendRecord(NEW_KIND, slot)) {
                return losePower();
            }
            stagedCount = 0;
            return flash.operations - before;
        }

        int mirrorRunning() {
            if (!runsGoodSlot() || !flash.holdsImage(running)) {
                return WRONG_STATE;
            }
            int before = flash.operations;
            int[] image = flash.cells[running];
            if (!flash.writeImage(1 - running, image[0], image, image[1], false)
                    || !appendRecord(GOOD_KIND, running)) {
                return losePower();
            }
            return flash.operations - before;
        }

        int moveByHand() {
            ledger.readFrom(flash);
            if (state == STATE_OFF || ledger.page == NONE) {
                return WRONG_STATE;
            }
            if (!moveRecords()) {
                return losePower();
            }
            ledger.readFrom(flash);
            return ledger.page;
        }

        int confirmRunning() {
            ledger.readFrom(flash);
            if (running == NONE || running != ledger.fresh) {
                return WRONG_STATE;
            }
            int version = flash.cells[running][0];
            if (!appendRecord(GOOD_KIND, running)) {
                return losePower();
            }
            if (version > ledger.floor && !appendRecord(FLOOR_KIND, version)) {
                return losePower();
            }
            return ledger.floor;
        }

        int recoverSlot(int slot, int version) {
            if (state != STATE_WAITS || stagedCount == 0) {
                return WRONG_STATE;
            }
            ledger.readFrom(flash);
            if (version < ledger.floor) {
                return TOO_OLD;
            }
            int before = flash.operations;
            if (!flash.writeImage(slot, version, staged, stagedCount, false) || !appendRecord(GOOD_KIND, slot)) {
                return losePower();
            }
            stagedCount = 0;
            switchOff();
            return flash.operations - before;
        }
    }
}
