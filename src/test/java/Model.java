import java.util.ArrayList;
import java.util.List;
import java.util.regex.Matcher;
import java.util.regex.Pattern;

/**
 * The document's words once more, written without an eye on TwinBoot's code or on speed: a cut is an exception here,
 * the journal is a list of records, and predictions are played on copies. RandomRunsTest compares the two.
 */
final class Model implements Cloneable {
    static final int NONE = -1;
    static final int FULL = -2;
    static final int WRONG_STATE = -3;
    static final int CUT = -4;
    static final int TOO_OLD = -5;

    static final class PowerCut extends Exception {
        private static final long serialVersionUID = 1;
    }

    static final class TextError extends Exception {
        private static final long serialVersionUID = 1;
        final int kind;
        final int position;

        TextError(int kind, int position) {
            this.kind = kind;
            this.position = position;
        }
    }

    record Entry(int kind, int value, int place) {
    }

    StringBuilder buffer = new StringBuilder();
    int loadError = 0;
    Model[] saved = new Model[2];

    int words = 16;
    int page = 4;
    int journal = 12;
    int mostTries = 3;
    int life = 0;
    int[][] slots;
    int[][] journals;
    int[][] wear;
    List<Integer> staged = new ArrayList<>();
    List<int[]> log = new ArrayList<>();
    int power = NONE;
    int operations = 0;
    int state = 0;
    int running = NONE;

    Model() {
        try {
            become("flash 16 4 12");
        } catch (TextError e) {
            throw new IllegalStateException(e);
        }
    }

    Model copy() {
        try {
            Model copy = (Model) clone();
            copy.slots = deep(slots);
            copy.journals = deep(journals);
            copy.wear = deep(wear);
            copy.staged = new ArrayList<>(staged);
            copy.log = new ArrayList<>(log);
            return copy;
        } catch (CloneNotSupportedException e) {
            throw new IllegalStateException(e);
        }
    }

    private static int[][] deep(int[][] rows) {
        int[][] copy = new int[rows.length][];
        for (int i = 0; i < rows.length; i++) {
            copy[i] = rows[i].clone();
        }
        return copy;
    }

    private static void range(int number, int least, int most) {
        if (number < least || number > most) {
            throw new IllegalArgumentException();
        }
    }

    // ---- texts

    private static final Pattern TOKEN = Pattern.compile(" *([a-z]+|[0-9]+|[^ ])", Pattern.DOTALL);

    private static final class Tokens {
        final List<String> texts = new ArrayList<>();
        final List<Integer> places = new ArrayList<>();
        int next = 0;

        Tokens(String text) {
            Matcher matcher = TOKEN.matcher(text);
            while (matcher.find()) {
                texts.add(matcher.group(1));
                places.add(matcher.start(1));
            }
            texts.add("");
            places.add(text.length());
        }

        String text() {
            return texts.get(next);
        }

        int place() {
            return places.get(next);
        }

        boolean isNumber() {
            return !text().isEmpty() && Character.isDigit(text().charAt(0)) && text().charAt(0) < 128;
        }

        int number(int least, int most) throws TextError {
            if (!isNumber()) {
                throw new TextError(1, place());
            }
            java.math.BigInteger number = new java.math.BigInteger(text());
            if (number.compareTo(java.math.BigInteger.valueOf(least)) < 0
                    || number.compareTo(java.math.BigInteger.valueOf(most)) > 0) {
                throw new TextError(2, place());
            }
            next++;
            return number.intValue();
        }

        void take(String wanted) throws TextError {
            if (!text().equals(wanted)) {
                throw new TextError(1, place());
            }
            next++;
        }
    }

    private void become(String text) throws TextError {
        Tokens in = new Tokens(text);
        in.take("flash");
        int newWords = in.number(8, 64);
        int newPage = in.number(4, 16);
        if (newWords % newPage != 0) {
            throw new TextError(3, in.places.get(in.next - 1));
        }
        int newJournal = in.number(12, 32);
        int tries = NONE;
        int newLife = NONE;
        int floor = NONE;
        int good = NONE;
        int[][] images = new int[2][];
        while (!in.text().isEmpty()) {
            in.take(";");
            String statement = in.text();
            int place = in.place();
            if (!List.of("tries", "life", "floor", "good", "image").contains(statement)) {
                throw new TextError(1, place);
            }
            in.next++;
            if (statement.equals("tries") && tries != NONE || statement.equals("life") && newLife != NONE
                    || statement.equals("floor") && floor != NONE || statement.equals("good") && good != NONE) {
                throw new TextError(4, place);
            }
            switch (statement) {
                case "tries" -> tries = in.number(1, 3);
                case "life" -> newLife = in.number(0, 1000);
                case "floor" -> floor = in.number(0, 255);
                case "good" -> good = in.number(0, 1);
                default -> {
                    int slotPlace = in.place();
                    int slot = in.number(0, 1);
                    if (images[slot] != null) {
                        throw new TextError(4, slotPlace);
                    }
                    int version = in.number(1, 255);
                    List<Integer> payload = new ArrayList<>();
                    payload.add(in.number(0, 65535));
                    while (in.isNumber()) {
                        if (payload.size() == newWords - 3) {
                            throw new TextError(1, in.place());
                        }
                        payload.add(in.number(0, 65535));
                    }
                    images[slot] = image(version, payload);
                }
            }
        }
        words = newWords;
        page = newPage;
        journal = newJournal;
        mostTries = tries == NONE ? 3 : tries;
        life = newLife == NONE ? 0 : newLife;
        slots = new int[2][words];
        journals = new int[2][journal];
        wear = new int[][] {new int[words / page], new int[words / page], new int[2]};
        for (int i = 0; i < 2; i++) {
            java.util.Arrays.fill(slots[i], 65535);
            java.util.Arrays.fill(journals[i], 65535);
            if (images[i] != null) {
                System.arraycopy(images[i], 0, slots[i], 0, images[i].length);
            }
        }
        int at = 0;
        journals[0][at++] = recordWord(6, 0);
        if (floor > 0) {
            journals[0][at++] = recordWord(1, floor);
        }
        if (good != NONE) {
            journals[0][at++] = recordWord(2, good);
        }
        staged.clear();
        log.clear();
        power = NONE;
        operations = 0;
        state = 0;
        running = NONE;
    }

    private static int[] image(int version, List<Integer> payload) {
        int[] image = new int[3 + payload.size()];
        long sum = version + 3L * payload.size();
        for (int k = 0; k < payload.size(); k++) {
            image[3 + k] = payload.get(k);
            sum += (k + 1L) * payload.get(k);
        }
        image[0] = version;
        image[1] = payload.size();
        image[2] = (int) (sum % 65536);
        return image;
    }

    int append(long bytes) {
        StringBuilder more = new StringBuilder();
        for (byte b : java.nio.ByteBuffer.allocate(8).putLong(bytes).array()) {
            if (b != 0) {
                more.append((char) (b & 255));
            }
        }
        if (buffer.length() + more.length() > 900) {
            return FULL;
        }
        buffer.append(more);
        return buffer.length();
    }

    int load() {
        String text = buffer.toString();
        buffer.setLength(0);
        loadError = 0;
        try {
            become(text);
        } catch (TextError e) {
            loadError = e.kind;
            return -100 - e.position;
        }
        return (isWhole(0) ? 1 : 0) + (isWhole(1) ? 1 : 0);
    }

    int stage(int word) {
        range(word, 0, 65535);
        if (staged.size() == words - 3) {
            return FULL;
        }
        staged.add(word);
        return staged.size();
    }

    int staged(int index) {
        return index >= 0 && index < staged.size() ? staged.get(index) : NONE;
    }

    int clearStaged() {
        int count = staged.size();
        staged.clear();
        return count;
    }

    int setting(int what) {
        range(what, 0, 5);
        return new int[] {words, page, journal, mostTries, staged.size(), life}[what];
    }

    // ---- operations

    private boolean torn() {
        operations++;
        if (power == 0) {
            return true;
        }
        if (power > 0) {
            power--;
        }
        return false;
    }

    private void cut() throws PowerCut {
        state = 0;
        running = NONE;
        event(1, 0);
        throw new PowerCut();
    }

    private void event(int kind, int number) {
        log.add(new int[] {kind, number, operations});
    }

    private void write(int[] row, int index, int value) throws PowerCut {
        if (torn()) {
            int low = row[index] & value & 255;
            row[index] = row[index] / 256 * 256 + low;
            cut();
        }
        row[index] &= value;
    }

    private void eraseSlot(int slot, int number) throws PowerCut {
        int blank = life > 0 && wear[slot][number] >= life ? 65534 : 65535;
        wear[slot][number]++;
        boolean torn = torn();
        for (int i = 0; i < (torn ? page / 2 : page); i++) {
            slots[slot][number * page + i] = blank;
        }
        if (torn) {
            cut();
        }
    }

    private void eraseJournal(int number) throws PowerCut {
        wear[2][number]++;
        boolean torn = torn();
        for (int i = 0; i < (torn ? journal / 2 : journal); i++) {
            journals[number][i] = 65535;
        }
        if (torn) {
            cut();
        }
    }

    // ---- the journal

    private static int recordWord(int kind, int value) {
        return 4096 * kind + 16 * value + (kind + value / 16 + value % 16) % 16;
    }

    private static boolean isRight(int word) {
        int kind = word / 4096;
        int value = word / 16 % 256;
        return kind >= 1 && kind <= 6 && word == recordWord(kind, value)
                && (kind == 1 || kind == 6 || value == 0 || value == 1);
    }

    private static int headOf(int[] row) {
        return isRight(row[0]) && row[0] / 4096 == 6 ? row[0] / 16 % 256 : NONE;
    }

    int activePage() {
        int first = headOf(journals[0]);
        int second = headOf(journals[1]);
        if (first == NONE && second == NONE) {
            return NONE;
        }
        if (first == NONE || second == NONE) {
            return first == NONE ? 1 : 0;
        }
        int ahead = Math.floorMod(second - first, 256);
        return ahead >= 1 && ahead <= 127 ? 1 : 0;
    }

    int generation() {
        return activePage() == NONE ? NONE : headOf(journals[activePage()]);
    }

    int freeWords() {
        if (activePage() == NONE) {
            return 0;
        }
        int free = 0;
        while (free < journal && journals[activePage()][journal - 1 - free] == 65535) {
            free++;
        }
        return free;
    }

    private List<Entry> entries() {
        List<Entry> entries = new ArrayList<>();
        if (activePage() != NONE) {
            for (int i = 1; i < journal; i++) {
                int word = journals[activePage()][i];
                if (isRight(word) && word / 4096 != 6) {
                    entries.add(new Entry(word / 4096, word / 16 % 256, i));
                }
            }
        }
        return entries;
    }

    int recordCount() {
        return entries().size();
    }

    int record(int index, int what) {
        range(what, 0, 2);
        if (index < 0 || index >= entries().size()) {
            return NONE;
        }
        Entry entry = entries().get(index);
        return what == 0 ? entry.kind() : what == 1 ? entry.value() : entry.place();
    }

    int spoiled() {
        int spoiled = 0;
        for (int i = 1; i < journal && activePage() != NONE; i++) {
            int word = journals[activePage()][i];
            if (word != 65535 && (!isRight(word) || word / 4096 == 6)) {
                spoiled++;
            }
        }
        return spoiled;
    }

    int told(int what) {
        range(what, 0, 4);
        int floor = 0;
        int good = NONE;
        int fresh = NONE;
        int tries = 0;
        boolean[] bad = new boolean[2];
        for (Entry entry : entries()) {
            int value = entry.value();
            switch (entry.kind()) {
                case 1 -> floor = Math.max(floor, value);
                case 2 -> {
                    good = value;
                    bad[value] = false;
                    if (fresh == value) {
                        fresh = NONE;
                        tries = 0;
                    }
                }
                case 3 -> {
                    fresh = value;
                    bad[value] = false;
                    tries = 0;
                }
                case 4 -> {
                    if (fresh == value) {
                        tries++;
                    }
                }
                default -> {
                    bad[value] = true;
                    if (fresh == value) {
                        fresh = NONE;
                        tries = 0;
                    }
                    if (good == value) {
                        good = NONE;
                    }
                }
            }
        }
        return new int[] {floor, good, fresh, tries, (bad[0] ? 1 : 0) + (bad[1] ? 2 : 0)}[what];
    }

    private void format() throws PowerCut {
        eraseJournal(0);
        write(journals[0], 0, recordWord(6, 0));
        event(6, 0);
    }

    private void move() throws PowerCut {
        int other = 1 - activePage();
        int generation = (generation() + 1) % 256;
        List<Integer> kept = new ArrayList<>();
        if (told(0) > 0) {
            kept.add(recordWord(1, told(0)));
        }
        if (told(1) != NONE) {
            kept.add(recordWord(2, told(1)));
        }
        for (int slot = 0; slot < 2; slot++) {
            if ((told(4) >> slot) % 2 == 1) {
                kept.add(recordWord(5, slot));
            }
        }
        if (told(2) != NONE) {
            kept.add(recordWord(3, told(2)));
            for (int i = 0; i < Math.min(3, told(3)); i++) {
                kept.add(recordWord(4, told(2)));
            }
        }
        eraseJournal(other);
        for (int i = 0; i < kept.size(); i++) {
            write(journals[other], 1 + i, kept.get(i));
        }
        write(journals[other], 0, recordWord(6, generation));
        event(5, activePage());
    }

    private void add(int kind, int value) throws PowerCut {
        if (activePage() == NONE) {
            format();
        }
        if (freeWords() == 0) {
            move();
        }
        write(journals[activePage()], journal - freeWords(), recordWord(kind, value));
        if (kind == 3 || kind == 2 || kind == 5) {
            event(kind == 3 ? 2 : kind == 2 ? 3 : 4, value);
        }
    }

    // ---- running

    int setPower(int wanted) {
        range(wanted, NONE, 100000);
        int left = power;
        power = wanted;
        return left;
    }

    boolean isBootable(int slot) {
        range(slot, 0, 1);
        return isWhole(slot) && slots[slot][0] >= told(0) && (told(4) >> slot) % 2 == 0;
    }

    int boot() {
        off();
        try {
            if (activePage() == NONE) {
                format();
            }
            int fresh = told(2);
            if (fresh != NONE) {
                if (isBootable(fresh) && told(3) < mostTries) {
                    add(4, fresh);
                    return runs(fresh);
                }
                add(5, fresh);
            }
            for (int slot : new int[] {told(1), 0, 1}) {
                if (slot != NONE && isBootable(slot)) {
                    return runs(slot);
                }
            }
            state = 2;
            event(7, 0);
            return NONE;
        } catch (PowerCut e) {
            return CUT;
        }
    }

    private int runs(int slot) {
        state = 1;
        running = slot;
        event(0, slot);
        return slot;
    }

    boolean off() {
        boolean was = state != 0;
        state = 0;
        running = NONE;
        return was;
    }

    private boolean mustErase(int slot, int number, List<Integer> payload) {
        for (int k = 0; k < payload.size(); k++) {
            int word = slots[slot][3 + k];
            if ((3 + k) / page == number && (word | payload.get(k)) != word) {
                return true;
            }
        }
        return number == 0;
    }

    private void burn(int slot, int version, List<Integer> payload, boolean thrifty) throws PowerCut {
        for (int number = 0; number < words / page; number++) {
            if (!thrifty || mustErase(slot, number, payload)) {
                eraseSlot(slot, number);
            }
        }
        int[] image = image(version, payload);
        for (int i = 3; i < image.length; i++) {
            if (slots[slot][i] != image[i]) {
                write(slots[slot], i, image[i]);
            }
        }
        write(slots[slot], 1, image[1]);
        write(slots[slot], 2, image[2]);
        write(slots[slot], 0, image[0]);
    }

    int anyUpdate(int version, boolean thrifty) {
        range(version, 1, 255);
        if (running == NONE || running != told(1) || staged.isEmpty()) {
            return WRONG_STATE;
        }
        if (version < told(0)) {
            return TOO_OLD;
        }
        int before = operations;
        try {
            int slot = 1 - running;
            burn(slot, version, staged, thrifty);
            add(3, slot);
        } catch (PowerCut e) {
            return CUT;
        }
        staged.clear();
        return operations - before;
    }

    int mirror() {
        if (running == NONE || running != told(1) || !isWhole(running)) {
            return WRONG_STATE;
        }
        int before = operations;
        List<Integer> payload = new ArrayList<>();
        for (int k = 0; k < slots[running][1]; k++) {
            payload.add(slots[running][3 + k]);
        }
        try {
            burn(1 - running, slots[running][0], payload, false);
            add(2, running);
        } catch (PowerCut e) {
            return CUT;
        }
        return operations - before;
    }

    int moveJournal() {
        if (state == 0 || activePage() == NONE) {
            return WRONG_STATE;
        }
        try {
            move();
        } catch (PowerCut e) {
            return CUT;
        }
        return activePage();
    }

    int confirm() {
        if (running == NONE || running != told(2)) {
            return WRONG_STATE;
        }
        try {
            int slot = running;
            add(2, slot);
            if (slots[slot][0] > told(0)) {
                add(1, slots[slot][0]);
            }
        } catch (PowerCut e) {
            return CUT;
        }
        return told(0);
    }

    int recover(int slot, int version) {
        range(slot, 0, 1);
        range(version, 1, 255);
        if (state != 2 || staged.isEmpty()) {
            return WRONG_STATE;
        }
        if (version < told(0)) {
            return TOO_OLD;
        }
        int before = operations;
        try {
            burn(slot, version, staged, false);
            add(2, slot);
        } catch (PowerCut e) {
            return CUT;
        }
        staged.clear();
        off();
        return operations - before;
    }

    // ---- flash

    int word(int slot, int index) {
        range(slot, 0, 1);
        return index >= 0 && index < words ? slots[slot][index] : NONE;
    }

    int journalWord(int number, int index) {
        range(number, 0, 1);
        return index >= 0 && index < journal ? journals[number][index] : NONE;
    }

    int wear(int area, int number) {
        range(area, 0, 2);
        if (number < 0 || number >= wear[area].length) {
            throw new IndexOutOfBoundsException();
        }
        return wear[area][number];
    }

    int mostWorn() {
        int best = 0;
        for (int area = 0; area < 3; area++) {
            for (int number = 0; number < wear[area].length; number++) {
                if (wear[area][number] > wear[best / 100][best % 100]) {
                    best = 100 * area + number;
                }
            }
        }
        return best;
    }

    int wornOut(int slot) {
        range(slot, 0, 1);
        int sum = 0;
        for (int k = 0; k < words / page; k++) {
            sum += life > 0 && wear[slot][k] > life ? (int) Math.pow(2, k) : 0;
        }
        return sum;
    }

    boolean isWhole(int slot) {
        range(slot, 0, 1);
        return checksum(slot) != NONE && checksum(slot) == slots[slot][2];
    }

    int checksum(int slot) {
        range(slot, 0, 1);
        int[] row = slots[slot];
        if (row[0] < 1 || row[0] > 255 || row[1] < 1 || row[1] > words - 3) {
            return NONE;
        }
        List<Integer> payload = new ArrayList<>();
        for (int k = 0; k < row[1]; k++) {
            payload.add(row[3 + k]);
        }
        return image(row[0], payload)[2];
    }

    int verify(int slot) {
        range(slot, 0, 1);
        for (int k = 0; k < staged.size(); k++) {
            if (staged.get(k) != slots[slot][3 + k]) {
                return k;
            }
        }
        return slots[slot][1] == staged.size() ? NONE : staged.size();
    }

    int differentWords(int slot) {
        range(slot, 0, 1);
        if (!isWhole(slot)) {
            return 0;
        }
        return (int) java.util.Arrays.stream(slots[slot], 3, 3 + slots[slot][1]).distinct().count();
    }

    int differences() {
        int count = 0;
        for (int i = 0; i < words; i++) {
            count += slots[0][i] == slots[1][i] ? 0 : 1;
        }
        return count;
    }

    int zeroBits(int slot) {
        range(slot, 0, 1);
        int count = 0;
        for (int word : slots[slot]) {
            for (int bit = 1; bit < 65536; bit *= 2) {
                count += (word & bit) == 0 ? 1 : 0;
            }
        }
        return count;
    }

    private static int lose(int[] row, int index, int mask) {
        range(mask, 0, 65535);
        if (index < 0 || index >= row.length) {
            throw new IndexOutOfBoundsException();
        }
        int old = row[index];
        row[index] = old & (65535 - mask);
        return Integer.bitCount(old) - Integer.bitCount(row[index]);
    }

    int damage(int slot, int index, int mask) {
        range(slot, 0, 1);
        return lose(slots[slot], index, mask);
    }

    int damageJournal(int number, int index, int mask) {
        range(number, 0, 1);
        return lose(journals[number], index, mask);
    }

    // ---- predictions

    private Model unlimited() {
        Model copy = copy();
        copy.power = NONE;
        return copy;
    }

    int bootWould() {
        return unlimited().boot();
    }

    int bootOperations() {
        Model copy = unlimited();
        copy.boot();
        return copy.operations - operations;
    }

    int anyUpdateOperations(int version, boolean thrifty) {
        return unlimited().anyUpdate(version, thrifty);
    }

    /** The device behind the cut, with power again and off; null if the update is not cut. */
    private Model cutUpdate(int version, int cut, boolean thrifty) {
        Model copy = copy();
        copy.power = cut;
        int answer = copy.anyUpdate(version, thrifty);
        copy.power = NONE;
        return answer == CUT ? copy : null;
    }

    int slotAfterCut(int version, int cut) {
        range(version, 1, 255);
        range(cut, 0, 1000);
        int operations = anyUpdateOperations(version, false);
        if (operations < 0) {
            return operations;
        }
        return cut >= operations ? FULL : cutUpdate(version, cut, false).boot();
    }

    int anyUnsafeCut(int version, boolean thrifty) {
        range(version, 1, 255);
        int operations = anyUpdateOperations(version, thrifty);
        if (operations < 0) {
            return operations - 100;
        }
        for (int cut = 0; cut < operations; cut++) {
            if (cutUpdate(version, cut, thrifty).boot() == NONE) {
                return cut;
            }
        }
        return NONE;
    }

    int cutsToNew(int version) {
        range(version, 1, 255);
        int operations = anyUpdateOperations(version, false);
        int count = 0;
        for (int cut = 0; cut < operations; cut++) {
            count += slotAfterCut(version, cut) == 1 - running ? 1 : 0;
        }
        return operations < 0 ? operations : count;
    }

    int longestOldRun(int version) {
        range(version, 1, 255);
        int operations = anyUpdateOperations(version, false);
        StringBuilder signs = new StringBuilder();
        for (int cut = 0; cut < operations; cut++) {
            signs.append(slotAfterCut(version, cut) == running ? 'o' : ' ');
        }
        int longest = 0;
        for (String run : signs.toString().split(" ")) {
            longest = Math.max(longest, run.length());
        }
        return operations < 0 ? operations : longest;
    }

    int updatesLeft(int version) {
        range(version, 1, 255);
        Model copy = unlimited();
        int done = 0;
        while (done < 60) {
            int slot = 1 - copy.running;
            copy.staged = new ArrayList<>(staged);
            int answer = copy.anyUpdate(version, false);
            if (done == 0 && answer < 0) {
                return answer - 100;
            }
            if (answer < 0) {
                throw new IllegalStateException("a later update has an error");
            }
            if (copy.boot() != slot) {
                break;
            }
            done++;
            copy.confirm();
        }
        return done;
    }

    int thriftyPages() {
        int sum = 0;
        for (int k = 0; k < words / page; k++) {
            if (running != NONE && !staged.isEmpty() && mustErase(1 - running, k, staged)) {
                sum += 1 << k;
            }
        }
        return sum;
    }

    int slotAfterTwoCuts(int version, int cut, int bootCut) {
        range(version, 1, 255);
        range(cut, 0, 1000);
        range(bootCut, 0, 1000);
        int operations = anyUpdateOperations(version, false);
        if (operations < 0) {
            return operations;
        }
        return cut >= operations ? FULL : bootTwice(cutUpdate(version, cut, false), bootCut);
    }

    private static int bootTwice(Model copy, int bootCut) {
        if (copy.bootOperations() <= bootCut) {
            return copy.boot();
        }
        copy.power = bootCut;
        if (copy.boot() != CUT) {
            throw new IllegalStateException("not cut");
        }
        copy.power = NONE;
        return copy.boot();
    }

    int firstUnsafePair(int version) {
        range(version, 1, 255);
        int operations = anyUpdateOperations(version, false);
        if (operations < 0) {
            return operations - 100;
        }
        for (int cut = 0; cut < operations; cut++) {
            for (int bootCut = 0; bootCut < 12; bootCut++) {
                if (slotAfterTwoCuts(version, cut, bootCut) == NONE) {
                    return 100 * cut + bootCut;
                }
            }
        }
        return NONE;
    }

    int toldAfterCut(int version, int cut, int what) {
        range(version, 1, 255);
        range(cut, 0, 1000);
        range(what, 0, 4);
        int operations = anyUpdateOperations(version, false);
        if (operations < 0) {
            return operations - 100;
        }
        if (cut >= operations) {
            return FULL - 100;
        }
        Model copy = cutUpdate(version, cut, false);
        copy.boot();
        return copy.told(what);
    }

    int bootsToRollback() {
        Model copy = unlimited();
        List<Integer> ran = new ArrayList<>();
        for (int i = 0; i < 10; i++) {
            ran.add(copy.boot());
            if (ran.get(i) == NONE) {
                return NONE;
            }
            int reference = running == NONE ? ran.get(0) : running;
            if (ran.get(i) != reference) {
                return i + 1;
            }
        }
        return NONE;
    }

    int firstBootCut() {
        for (int cut = 0; cut < bootOperations(); cut++) {
            Model copy = copy();
            copy.power = cut;
            copy.boot();
            copy.power = NONE;
            if (copy.boot() != bootWould()) {
                return cut;
            }
        }
        return NONE;
    }

    int recordsLeft() {
        return activePage() == NONE ? journal - 1 : freeWords();
    }

    // ---- log and snapshots

    int logSize() {
        return Math.min(40, log.size());
    }

    int logEntry(int index, int what) {
        range(what, 0, 2);
        return index < 0 || index >= logSize() ? NONE : log.get(log.size() - logSize() + index)[what];
    }

    int eventCount(int event) {
        range(event, 0, 7);
        return (int) log.stream().filter(entry -> entry[0] == event).count();
    }

    int saveSnapshot(int place) {
        range(place, 0, 1);
        saved[place] = copy();
        return operations;
    }

    int restoreSnapshot(int place) {
        range(place, 0, 1);
        if (saved[place] == null) {
            return NONE;
        }
        Model copy = saved[place].copy();
        words = copy.words;
        page = copy.page;
        journal = copy.journal;
        mostTries = copy.mostTries;
        life = copy.life;
        slots = copy.slots;
        journals = copy.journals;
        wear = copy.wear;
        staged = copy.staged;
        log = copy.log;
        power = copy.power;
        operations = copy.operations;
        state = copy.state;
        running = copy.running;
        return operations;
    }
}
