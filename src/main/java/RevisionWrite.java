import java.util.Arrays;

/**
 * A file of objects, written whole or behind what is there, read again from its end; its revisions,
 * what differs between two of them, and what is wrong in bytes that were altered, with its place.
 */
public final class RevisionWrite {
    public static final int NONE = -1;

    private static final int OBJECTS = 40;
    private static final int OBJECT_BYTES = 120;
    private static final int FILE_BYTES = 12000;
    private static final int PARTS = 60;
    private static final int NUMBER_DIGITS = 5;
    private static final int GREATEST_POWER = 10000;

    // A part of 40 objects of 120 bytes, told with the greatest places, has less than 5600 bytes.
    private static final int DRAFT_BYTES = 6000;

    private static final int LINE_END = 10;
    private static final int BLANK = 32;
    private static final byte[] FIRST_LINE = {'%', 'F', '1', LINE_END};

    // No byte has this value: a byte that is not in the file is unlike all that are.
    private static final int ABSENT = 256;

    // A row may wrongly tell the place 0, so 0 can't stand for "this part has no row of it".
    private static final int UNTOLD = -2;

    private static final int BY_NUMBERS = 0;
    private static final int BY_LENGTHS = 1;
    private static final int BY_FIRST = 2;

    private static final int ONLY_SECOND = 1;
    private static final int ONLY_FIRST = 2;
    private static final int IN_BOTH = 3;

    private final Shelf shelf;
    private final FileBytes file;
    private final History history;
    private final Scan scan;
    private final Draft draft;
    private final Differences differences;

    public RevisionWrite() {
        shelf = new Shelf();
        file = new FileBytes();
        history = new History();
        scan = new Scan(file);
        draft = new Draft(shelf);
        differences = new Differences();
    }

    public void object(int n, int length) throws IndexOutOfBoundsException, IllegalArgumentException {
        if (!isNumber(n)) {
            throw new IndexOutOfBoundsException("no such object");
        }
        if (length < 0 || length > OBJECT_BYTES) {
            throw new IllegalArgumentException("an object has 0 .. 120 bytes");
        }
        shelf.bring(n, length);
    }

    public byte octet(int n, int i, byte b) throws IndexOutOfBoundsException {
        if (!shelf.hasByte(n, i)) {
            throw new IndexOutOfBoundsException("no such byte of an object");
        }
        return shelf.exchange(n, i, b);
    }

    public boolean drop(int n) throws IndexOutOfBoundsException {
        if (!isNumber(n)) {
            throw new IndexOutOfBoundsException("no such object");
        }
        boolean was = shelf.there[n];
        shelf.there[n] = false;
        return was;
    }

    public boolean first(int n, boolean on) throws IndexOutOfBoundsException {
        if (!shelf.hasObject(n)) {
            throw new IndexOutOfBoundsException("no such object");
        }
        boolean was = shelf.leading[n];
        shelf.leading[n] = on;
        return was != on;
    }

    public int write(int how) throws IllegalArgumentException, UnsupportedOperationException {
        if (how < BY_NUMBERS || how > BY_FIRST) {
            throw new IllegalArgumentException("how is 0 .. 2");
        }
        draft.begin(0);
        draft.putFirstLine();
        draft.chooseThere(how);
        draft.finish(0);
        if (draft.part.end > FILE_BYTES) {
            throw new UnsupportedOperationException("a file has at most 12000 bytes");
        }
        history.count = 0;
        keepDraft();
        return file.count;
    }

    public int append() throws IllegalStateException, UnsupportedOperationException {
        if (file.count == 0 || file.altered) {
            throw new IllegalStateException("the file is empty or altered");
        }
        if (shelf.countChanged() == 0) {
            return 0;
        }
        if (history.count >= PARTS) {
            throw new UnsupportedOperationException("a file has at most 60 parts");
        }
        draft.begin(file.count);
        draft.chooseChanged();
        draft.finish(history.latestX());
        if (draft.part.end > FILE_BYTES) {
            throw new UnsupportedOperationException("a file has at most 12000 bytes");
        }
        keepDraft();
        return draft.used;
    }

    public int read() {
        return readFile();
    }

    public byte poke(int i, byte b) throws IndexOutOfBoundsException {
        if (!file.has(i)) {
            throw new IndexOutOfBoundsException("no such place");
        }
        byte was = file.bytes[i];
        file.bytes[i] = b;
        file.altered = true;
        return was;
    }

    public int take(int revision) throws IndexOutOfBoundsException {
        if (!history.has(revision)) {
            throw new IndexOutOfBoundsException("no such revision");
        }
        file.count = Math.min(file.count, history.revisions[revision].end);
        // A reading without a fault takes this back.
        file.altered = true;
        return readFile();
    }

    public byte at(int i) throws IndexOutOfBoundsException {
        if (!file.has(i)) {
            throw new IndexOutOfBoundsException("no such place");
        }
        return file.bytes[i];
    }

    public int length(int n) throws IndexOutOfBoundsException {
        if (!isNumber(n)) {
            throw new IndexOutOfBoundsException("no such object");
        }
        return shelf.there[n] ? shelf.lengths[n] : NONE;
    }

    public byte byteOf(int n, int i) throws IndexOutOfBoundsException {
        if (!shelf.hasByte(n, i)) {
            throw new IndexOutOfBoundsException("no such byte of an object");
        }
        return shelf.byteAt(n, i);
    }

    public int size(int revision) throws IndexOutOfBoundsException {
        if (!history.has(revision)) {
            throw new IndexOutOfBoundsException("no such revision");
        }
        return history.revisions[revision].end;
    }

    public int place(int revision, int n) throws IndexOutOfBoundsException {
        if (!history.has(revision) || !isNumber(n)) {
            throw new IndexOutOfBoundsException("no such revision or object");
        }
        return history.revisions[revision].places[n];
    }

    public int differ(int a, int b) throws IndexOutOfBoundsException {
        if (!history.has(a) || !history.has(b)) {
            throw new IndexOutOfBoundsException("no such revision");
        }
        differences.compare(file, history.revisions[a], history.revisions[b]);
        return differences.count;
    }

    public int row(int i, int what) throws IndexOutOfBoundsException {
        if (i < 0 || i >= differences.count || what < 0 || what > 1) {
            throw new IndexOutOfBoundsException("no such row");
        }
        return what == 0 ? differences.numbers[i] : differences.kinds[i];
    }

    public int told(int what) {
        switch (what) {
            case 0:
                return file.count;
            case 1:
                return history.count;
            case 2:
                return shelf.countThere();
            case 3:
                return shelf.countChanged();
            case 4:
                return file.altered ? 1 : 0;
            default:
                return NONE;
        }
    }

    private static boolean isNumber(int n) {
        return n >= 1 && n <= OBJECTS;
    }

    private void keepDraft() {
        file.putBehind(draft.base, draft.bytes, draft.used);
        file.altered = false;
        history.add(draft.part);
        shelf.save();
    }

    private int readFile() {
        int fault = scan.findFault();
        if (fault != NONE) {
            return -1 - fault;
        }
        history.count = 0;
        // The scan went from the last part to the first one.
        for (int i = scan.count - 1; i >= 0; i--) {
            history.add(scan.parts[i]);
        }
        if (history.count > 0) {
            shelf.load(file, history.revisions[history.count - 1]);
        }
        file.altered = false;
        return history.count;
    }

    /** The objects 1 .. 40; row 0 of each array stays unused, so that numbers are indexes. */
    private static final class Shelf {
        final boolean[] there = new boolean[OBJECTS + 1];
        final boolean[] leading = new boolean[OBJECTS + 1];
        final int[] lengths = new int[OBJECTS + 1];
        final byte[] bytes = new byte[(OBJECTS + 1) * OBJECT_BYTES];
        final boolean[] touched = new boolean[OBJECTS + 1];
        final boolean[] saved = new boolean[OBJECTS + 1];

        boolean hasObject(int n) {
            return isNumber(n) && there[n];
        }

        boolean hasByte(int n, int i) {
            return hasObject(n) && i >= 0 && i < lengths[n];
        }

        byte byteAt(int n, int i) {
            return bytes[n * OBJECT_BYTES + i];
        }

        void bring(int n, int length) {
            there[n] = true;
            leading[n] = false;
            touched[n] = true;
            lengths[n] = length;
            int from = n * OBJECT_BYTES;
            Arrays.fill(bytes, from, from + length, (byte) 0);
        }

        byte exchange(int n, int i, byte b) {
            int index = n * OBJECT_BYTES + i;
            byte was = bytes[index];
            bytes[index] = b;
            if (was != b) {
                touched[n] = true;
            }
            return was;
        }

        /** One that is gone matters only if the file still has it. */
        boolean isChanged(int n) {
            return there[n] ? touched[n] : saved[n];
        }

        int countChanged() {
            int count = 0;
            for (int n = 1; n <= OBJECTS; n++) {
                if (isChanged(n)) {
                    count++;
                }
            }
            return count;
        }

        int countThere() {
            int count = 0;
            for (int n = 1; n <= OBJECTS; n++) {
                if (there[n]) {
                    count++;
                }
            }
            return count;
        }

        void save() {
            for (int n = 1; n <= OBJECTS; n++) {
                touched[n] = false;
                saved[n] = there[n];
            }
        }

        void load(FileBytes file, Table revision) {
            for (int n = 1; n <= OBJECTS; n++) {
                there[n] = revision.places[n] != NONE;
                leading[n] = false;
                if (there[n]) {
                    loadBytes(n, file, revision);
                }
            }
            save();
        }

        private void loadBytes(int n, FileBytes file, Table revision) {
            int length = revision.lengths[n];
            int from = revision.bytesPlace(n);
            lengths[n] = length;
            for (int i = 0; i < length; i++) {
                bytes[n * OBJECT_BYTES + i] = (byte) file.valueAt(from + i);
            }
        }
    }

    /** The file: what its array has behind the count is left over and answers nothing. */
    private static final class FileBytes {
        final byte[] bytes = new byte[FILE_BYTES];
        int count;
        boolean altered;

        boolean has(int i) {
            return i >= 0 && i < count;
        }

        int valueAt(int i) {
            return i >= 0 && i < count ? bytes[i] : ABSENT;
        }

        void putBehind(int base, byte[] more, int used) {
            if (base >= 0 && used >= 0 && used <= more.length && base + used <= FILE_BYTES) {
                System.arraycopy(more, 0, bytes, base, used);
                count = base + used;
            }
        }
    }

    /** Where records of objects are, as one part tells it (rows), or as a revision has it (all rows so far). */
    private static final class Table {
        final int[] places = new int[OBJECTS + 1];
        final int[] lengths = new int[OBJECTS + 1];
        int x;
        int end;

        void reset(int place) {
            Arrays.fill(places, place);
            Arrays.fill(lengths, 0);
        }

        void copyRows(Table other) {
            System.arraycopy(other.places, 0, places, 0, OBJECTS + 1);
            System.arraycopy(other.lengths, 0, lengths, 0, OBJECTS + 1);
        }

        void lay(Table part) {
            for (int n = 1; n <= OBJECTS; n++) {
                if (part.places[n] != UNTOLD) {
                    places[n] = part.places[n];
                    lengths[n] = part.lengths[n];
                }
            }
            x = part.x;
            end = part.end;
        }

        int countRows() {
            int count = 0;
            for (int n = 1; n <= OBJECTS; n++) {
                if (places[n] != UNTOLD) {
                    count++;
                }
            }
            return count;
        }

        /** Numbers have no 0 before others, so how long a record's line is follows from them. */
        int bytesPlace(int n) {
            return places[n] + 4 + digits(n) + digits(lengths[n]);
        }

        private static int digits(int number) {
            return number < 10 ? 1 : number < 100 ? 2 : 3;
        }
    }

    /** The revisions as the latest writing or reading knows them. */
    private static final class History {
        final Table[] revisions = new Table[PARTS];
        int count;

        History() {
            for (int i = 0; i < PARTS; i++) {
                revisions[i] = new Table();
            }
        }

        boolean has(int revision) {
            return revision >= 0 && revision < count;
        }

        void add(Table part) {
            if (count >= PARTS) {
                return;
            }
            Table made = revisions[count];
            if (count == 0) {
                made.reset(NONE);
            } else {
                made.copyRows(revisions[count - 1]);
            }
            made.lay(part);
            count++;
        }

        int latestX() {
            return count > 0 ? revisions[count - 1].x : 0;
        }
    }

    /** A part that is being written, apart from the file: only when it fits is it put there. */
    private static final class Draft {
        final Shelf shelf;
        final byte[] bytes = new byte[DRAFT_BYTES];
        final int[] order = new int[OBJECTS];
        final Table part = new Table();
        int chosen;
        int base;
        int used;

        Draft(Shelf shelf) {
            this.shelf = shelf;
        }

        void begin(int place) {
            base = place;
            used = 0;
            chosen = 0;
            part.reset(UNTOLD);
        }

        void chooseThere(int how) {
            for (int n = 1; n <= OBJECTS; n++) {
                if (shelf.there[n]) {
                    insert(n, how);
                }
            }
        }

        void chooseChanged() {
            for (int n = 1; n <= OBJECTS; n++) {
                if (!shelf.isChanged(n)) {
                    continue;
                }
                if (shelf.there[n]) {
                    insert(n, BY_NUMBERS);
                } else {
                    part.places[n] = NONE;
                }
            }
        }

        /** Objects come here by numbers; of equals the one that came before stays before. */
        private void insert(int n, int how) {
            if (chosen >= OBJECTS) {
                return;
            }
            int to = chosen;
            while (to > 0 && goesBefore(n, order[to - 1], how)) {
                order[to] = order[to - 1];
                to--;
            }
            order[to] = n;
            chosen++;
        }

        private boolean goesBefore(int n, int other, int how) {
            if (how == BY_LENGTHS) {
                return shelf.lengths[n] < shelf.lengths[other];
            }
            return how == BY_FIRST && shelf.leading[n] && !shelf.leading[other];
        }

        void finish(int before) {
            for (int k = 0; k < chosen; k++) {
                putRecord(order[k]);
            }
            part.x = base + used;
            putTagged('x', part.countRows());
            for (int n = 1; n <= OBJECTS; n++) {
                if (part.places[n] != UNTOLD) {
                    putRow(n);
                }
            }
            putTagged('p', before);
            putTagged('e', part.x);
            part.end = base + used;
        }

        void putFirstLine() {
            for (int i = 0; i < FIRST_LINE.length; i++) {
                put(FIRST_LINE[i]);
            }
        }

        private void putRecord(int n) {
            int length = shelf.lengths[n];
            part.places[n] = base + used;
            part.lengths[n] = length;
            put('o');
            put(BLANK);
            putNumber(n);
            put(BLANK);
            putNumber(length);
            put(LINE_END);
            for (int i = 0; i < length; i++) {
                put(shelf.byteAt(n, i));
            }
            put(LINE_END);
        }

        private void putRow(int n) {
            putNumber(n);
            put(BLANK);
            if (part.places[n] == NONE) {
                put('-');
            } else {
                putNumber(part.places[n]);
            }
            put(LINE_END);
        }

        private void putTagged(int letter, int number) {
            put(letter);
            put(BLANK);
            putNumber(number);
            put(LINE_END);
        }

        private void putNumber(int number) {
            for (int power = GREATEST_POWER; power >= 1; power /= 10) {
                if (number >= power || power == 1) {
                    put('0' + number / power % 10);
                }
            }
        }

        private void put(int value) {
            if (used < DRAFT_BYTES) {
                bytes[used] = (byte) value;
                used++;
            }
        }
    }

    /** Goes through the file from its last part to its first one, up to the first thing that is wrong. */
    private static final class Scan {
        final FileBytes file;
        final Table[] parts = new Table[PARTS];
        int count;
        private int next;
        private int before;

        Scan(FileBytes file) {
            this.file = file;
            for (int i = 0; i < PARTS; i++) {
                parts[i] = new Table();
            }
        }

        /** The place of the fault, or NONE. */
        int findFault() {
            count = 0;
            if (!hasFirstLine()) {
                return 0;
            }
            if (file.valueAt(file.count - 1) != LINE_END) {
                return file.count;
            }
            int last = lastLine();
            int x = tagged(last, 'e');
            if (x == NONE || x >= last) {
                return last;
            }
            for (int i = 0; i < PARTS; i++) {
                int fault = partFault(parts[i], x);
                if (fault != NONE) {
                    return fault;
                }
                count++;
                x = before;
                if (x == 0) {
                    break;
                }
            }
            return NONE;
        }

        private boolean hasFirstLine() {
            for (int i = 0; i < FIRST_LINE.length; i++) {
                if (file.valueAt(i) != FIRST_LINE[i]) {
                    return false;
                }
            }
            return true;
        }

        private int lastLine() {
            int start = file.count - 1;
            while (start > 0 && file.valueAt(start - 1) != LINE_END) {
                start--;
            }
            return start;
        }

        private int partFault(Table part, int x) {
            part.reset(UNTOLD);
            part.x = x;
            int rows = tagged(x, 'x');
            if (rows == NONE) {
                return x;
            }
            int fault = rowsFault(part, rows);
            if (fault != NONE) {
                return fault;
            }
            fault = endFault(part);
            if (fault != NONE) {
                return fault;
            }
            return recordsFault(part);
        }

        private int rowsFault(Table part, int rows) {
            int above = 0;
            for (int i = 0; i < rows; i++) {
                int here = next;
                int n = number();
                if (n <= above || n > OBJECTS || !accept(BLANK)) {
                    return here;
                }
                if (accept('-')) {
                    part.places[n] = NONE;
                } else {
                    int place = number();
                    if (place == NONE || place >= part.x) {
                        return here;
                    }
                    part.places[n] = place;
                }
                if (!accept(LINE_END)) {
                    return here;
                }
                above = n;
            }
            return NONE;
        }

        private int endFault(Table part) {
            int here = next;
            before = tagged(here, 'p');
            boolean tooMany = before != 0 && count + 1 >= PARTS;
            if (before == NONE || before >= part.x || tooMany) {
                return here;
            }
            here = next;
            if (tagged(here, 'e') != part.x) {
                return here;
            }
            part.end = next;
            return count == 0 && next != file.count ? next : NONE;
        }

        private int recordsFault(Table part) {
            for (int n = 1; n <= OBJECTS; n++) {
                int place = part.places[n];
                if (place < 0) {
                    continue;
                }
                part.lengths[n] = recordLength(n, place, part.x);
                if (part.lengths[n] == NONE) {
                    return place;
                }
            }
            return NONE;
        }

        /** How many bytes the record of object n at a place has, all of it before x; NONE when it is no such record. */
        private int recordLength(int n, int place, int x) {
            next = place;
            if (!accept('o') || !accept(BLANK) || number() != n || !accept(BLANK)) {
                return NONE;
            }
            int length = number();
            if (length == NONE || length > OBJECT_BYTES || !accept(LINE_END)) {
                return NONE;
            }
            int close = next + length;
            return close < x && file.valueAt(close) == LINE_END ? length : NONE;
        }

        /** The number of the line of a letter and a number at a place, or NONE; the next place is then behind it. */
        private int tagged(int place, int letter) {
            next = place;
            if (!accept(letter) || !accept(BLANK)) {
                return NONE;
            }
            int number = number();
            return accept(LINE_END) ? number : NONE;
        }

        private int number() {
            int start = next;
            int value = 0;
            // One digit too many is enough to see that it is no number.
            while (next - start <= NUMBER_DIGITS && isDigit(file.valueAt(next))) {
                value = value * 10 + file.valueAt(next) - '0';
                next++;
            }
            int digits = next - start;
            boolean padded = digits > 1 && file.valueAt(start) == '0';
            return digits < 1 || digits > NUMBER_DIGITS || padded ? NONE : value;
        }

        private static boolean isDigit(int value) {
            return value >= '0' && value <= '9';
        }

        private boolean accept(int value) {
            if (next < 0 || next >= file.count || file.bytes[next] != value) {
                return false;
            }
            next++;
            return true;
        }
    }

    /** What differed between two revisions when they were compared the latest time. */
    private static final class Differences {
        final int[] numbers = new int[OBJECTS];
        final int[] kinds = new int[OBJECTS];
        int count;

        void compare(FileBytes file, Table a, Table b) {
            count = 0;
            for (int n = 1; n <= OBJECTS; n++) {
                int kind = kindOf(n, file, a, b);
                if (kind != 0) {
                    numbers[count] = n;
                    kinds[count] = kind;
                    count++;
                }
            }
        }

        private int kindOf(int n, FileBytes file, Table a, Table b) {
            boolean inFirst = a.places[n] != NONE;
            boolean inSecond = b.places[n] != NONE;
            if (inFirst && inSecond) {
                return alike(n, file, a, b) ? 0 : IN_BOTH;
            }
            if (inFirst) {
                return ONLY_FIRST;
            }
            return inSecond ? ONLY_SECOND : 0;
        }

        private boolean alike(int n, FileBytes file, Table a, Table b) {
            if (a.lengths[n] != b.lengths[n]) {
                return false;
            }
            int placeA = a.bytesPlace(n);
            int placeB = b.bytesPlace(n);
            for (int i = 0; i < a.lengths[n]; i++) {
                if (file.valueAt(placeA + i) != file.valueAt(placeB + i)) {
                    return false;
                }
            }
            return true;
        }
    }
}
