import java.util.function.Supplier;

/**
 * The sentences of the document that name a boundary, in its order (those on faults of READ are FaultTest's): the last
 * input on each side of the bound, what is empty, what is full. That refused calls change nothing is RefusedTest's.
 */
public final class BoundaryTest {
    private static final int LEAST = Integer.MIN_VALUE;
    private static final int GREATEST = Integer.MAX_VALUE;

    public static void main(String[] args) {
        usedFor512Calls();
        objects1To40();
        atFirstNone();
        rowsOf0To120Bytes();
        fileOfAtMost12000Bytes();
        placesFrom0();
        numbersOf1To5Digits();
        rowsOfNoneAndOfAll();
        partBeforeOr0();
        latestRowCounts();
        sizeBehindItsEnd();
        changedCame();
        changedByte();
        changedWent();
        changedCameAndWent();
        changedSinceSaved();
        wholeByNumbers();
        wholeByHowManyBytes();
        wholeByFirst();
        behindOnlyChanged();
        firstNamedExceptionFirst();
        objectInPlaceOfOne();
        octetTellsWhatItWas();
        dropTellsWhetherItWasThere();
        firstTellsWhetherItWasNotSo();
        writeHow();
        appendOfNone();
        appendToEmptyOrAltered();
        appendUpTo12000();
        appendUpTo60Parts();
        readTellsRevisionsOrPlace();
        pokeAlters();
        takeUpToSize();
        takeOfSizeBeyondTheFile();
        takeWithFault();
        lengthOrNone();
        byteOfObject();
        sizeAndPlaceOfRevision();
        differOfBytes();
        differOfNoneAndOfAll();
        differInTheFileAsItIsNow();
        rowOfDifferences();
        toldAndNone();
        Check.end();
    }

    private static void told(String what, RevisionWrite x, int... want) {
        for (int i = 0; i < want.length; i++) {
            Check.due(what + ": told(" + i + ")", x.told(i), want[i]);
        }
    }

    /** An object with the objects 1 .. count, empty ones, written whole. */
    private static RevisionWrite written(int count) {
        RevisionWrite x = new RevisionWrite();
        for (int n = 1; n <= count; n++) {
            x.object(n, 0);
        }
        x.write(0);
        return x;
    }

    private static RevisionWrite withParts(int parts) {
        RevisionWrite x = written(0);
        for (int i = 1; i < parts; i++) {
            x.object(1, i % 2);
            x.append();
        }
        return x;
    }

    // An object is used for at most 512 calls after it has been made
    private static void usedFor512Calls() {
        RevisionWrite x = new RevisionWrite();
        x.object(40, 120);
        for (int call = 2; call < 511; call++) {
            Check.due("call " + call, x.octet(40, 119, (byte) call), call == 2 ? 0 : (byte) (call - 1));
        }
        Check.due("call 511", x.write(0), 4 + 8 + 121 + 1 + 4 + 5 + 4 + 6);
        Check.due("call 512", x.at(4 + 9 + 119), (byte) 510);
        RevisionWrite y = new RevisionWrite();
        y.write(0);
        for (int call = 2; call < 506; call += 3) {
            y.object(1 + call % 40, call % 121);
            y.append();
            y.take(0);
        }
        told("504 calls more", y, 16, 1, 0, 0, 0);
    }

    // OBJECTS 1 .. 40
    private static void objects1To40() {
        for (int n : new int[] {1, 40}) {
            RevisionWrite x = new RevisionWrite();
            x.object(n, 1);
            Check.due("octet of " + n, x.octet(n, 0, (byte) 3), 0);
            Check.due("byteOf " + n, x.byteOf(n, 0), 3);
            Check.due("length of " + n, x.length(n), 1);
            Check.due("first of " + n, x.first(n, true), true);
            x.write(0);
            Check.due("place of " + n, x.place(0, n), 4);
            Check.due("read of " + n, x.read(), 1);
            Check.due("drop of " + n, x.drop(n), true);
        }
        for (int n : new int[] {0, 41, -1, -40, 1 + 256, 1 + 65536, LEAST, LEAST + 1, GREATEST}) {
            RevisionWrite x = written(40);
            Check.noPlace("object " + n, () -> x.object(n, 0));
            Check.noPlace("octet of " + n, () -> x.octet(n, 0, (byte) 0));
            Check.noPlace("drop " + n, () -> x.drop(n));
            Check.noPlace("first " + n, () -> x.first(n, true));
            Check.noPlace("length " + n, () -> x.length(n));
            Check.noPlace("byteOf " + n, () -> x.byteOf(n, 0));
            Check.noPlace("place " + n, () -> x.place(0, n));
            told("no object " + n, x, x.told(0), 1, 40, 0, 0);
        }
    }

    // are there or not (at first none); No objects, an empty file
    private static void atFirstNone() {
        RevisionWrite x = new RevisionWrite();
        told("at first", x, 0, 0, 0, 0, 0);
        for (int n = 1; n <= 40; n++) {
            int number = n;
            Check.due("at first: length of " + n, x.length(n), -1);
            Check.due("at first: drop of " + n, x.drop(n), false);
            Check.noPlace("at first: first of " + n, () -> x.first(number, true));
            Check.noPlace("at first: byteOf " + n, () -> x.byteOf(number, 0));
        }
        Check.noPlace("at first: at", () -> x.at(0));
        Check.noPlace("at first: poke", () -> x.poke(0, (byte) 0));
        Check.noPlace("at first: take", () -> x.take(0));
        Check.noPlace("at first: size", () -> x.size(0));
        Check.noPlace("at first: place", () -> x.place(0, 1));
        Check.noPlace("at first: differ", () -> x.differ(0, 0));
        Check.noPlace("at first: row", () -> x.row(0, 0));
        Check.due("at first: read", x.read(), -1);
        Check.refused("at first: append", IllegalStateException.class, x::append);
        for (int n = 1; n <= 40; n++) {
            x.object(n, 0);
            Check.due("there are " + n, x.told(2), n);
        }
        for (int n = 1; n <= 40; n++) {
            Check.due("there was " + n, x.drop(n), true);
        }
        told("all went", x, 0, 0, 0, 0, 0);
    }

    // one that is there is a row of 0 .. 120 bytes; IllegalArgumentException when length is not 0 .. 120
    private static void rowsOf0To120Bytes() {
        for (int length : new int[] {0, 1, 2, 119, 120}) {
            RevisionWrite x = new RevisionWrite();
            x.object(19, 120);
            x.object(21, 120);
            x.object(20, length);
            Check.due("length", x.length(20), length);
            for (int i = 0; i < length; i++) {
                Check.due("byte " + i, x.octet(20, i, (byte) -1), 0);
            }
            for (int i : new int[] {-1, length, 121, LEAST, GREATEST}) {
                Check.noPlace("octet " + i + " of " + length, () -> x.octet(20, i, (byte) -1));
                Check.noPlace("byteOf " + i + " of " + length, () -> x.byteOf(20, i));
            }
            Check.due("all bytes of " + length, Check.objectOf(x, 20), "\u00ff".repeat(length));
            Check.due("the object before", x.byteOf(19, 119), 0);
            Check.due("the object behind", x.byteOf(21, 0), 0);
            x.write(0);
            x.drop(20);
            Check.due("read", x.read(), 1);
            Check.due("read: all bytes of " + length, Check.objectOf(x, 20), "\u00ff".repeat(length));
        }
        RevisionWrite x = new RevisionWrite();
        for (int length : new int[] {-1, 121, 256, 65536, LEAST, GREATEST}) {
            Check.refused("length " + length, IllegalArgumentException.class, () -> x.object(1, length));
        }
        told("no length", x, 0, 0, 0, 0, 0);
    }

    // THE FILE is a row of at most 12000 bytes
    private static void fileOfAtMost12000Bytes() {
        RevisionWrite x = Check.lacking(0);
        Check.due("at 11999", x.at(11999), 10);
        Check.due("poke 11999", x.poke(11999, (byte) 1), 10);
        Check.due("at 11999 then", x.at(11999), 1);
        Check.noPlace("at 12000", () -> x.at(12000));
        Check.noPlace("poke 12000", () -> x.poke(12000, (byte) 1));
        x.poke(11999, (byte) 10);
        int revisions = x.told(1);
        Check.due("12000 bytes are read", x.read(), revisions);
        Check.due("the SIZE of the last one", x.size(revisions - 1), 12000);
        Check.due("the last one taken out", x.take(revisions - 1), revisions);
        Check.due("the first one taken out", x.take(0), 1);
        Check.due("there is room again", x.append(), 0);
        x.object(1, 0);
        Check.due("there is room for a part", x.append() > 0, true);
    }

    // PLACES are counted from 0
    private static void placesFrom0() {
        RevisionWrite x = written(1);
        Check.due("at 0", x.at(0), '%');
        Check.due("poke 0", x.poke(0, (byte) 9), '%');
        Check.due("at 0 then", x.at(0), 9);
        Check.due("at 1", x.at(1), 'F');
        Check.due("the first record", x.place(0, 1), 4);
        Check.noPlace("at -1", () -> x.at(-1));
        Check.noPlace("poke -1", () -> x.poke(-1, (byte) 0));
        Check.noPlace("at the size", () -> x.at(x.told(0)));
        Check.noPlace("poke the size", () -> x.poke(x.told(0), (byte) 0));
        Check.due("the last one", x.at(x.told(0) - 1), 10);
    }

    // A NUMBER is 1 to 5 digits, none of them a 0 before others
    private static void numbersOf1To5Digits() {
        for (int place : new int[] {4, 11, 99, 100, 999, 1000, 9999, 10000}) {
            RevisionWrite x = reaching(place, false);
            int parts = x.told(1);
            Check.due("X is " + place, ending(x).endsWith("\ne " + place + "\n"), true);
            Check.due("X is " + place + ": read", x.read(), parts);
            x.object(40, 1);
            x.append();
            Check.due("Q is " + place, ending(x).contains("\np " + place + "\ne "), true);
            Check.due("Q is " + place + ": read", x.read(), parts + 1);
            RevisionWrite y = reaching(place, true);
            Check.due("P is " + place, ending(y).contains("\n40 " + place + "\np "), true);
            Check.due("P is " + place + ": its place", y.place(parts - 1, 40), place);
            Check.due("P is " + place + ": read", y.read(), parts);
            Check.due("P is " + place + ": its place, read", y.place(parts - 1, 40), place);
        }
    }

    /** An object whose last part's records end at a place; if there is to be one more, it is object 40's, there. */
    private static RevisionWrite reaching(int place, boolean more) {
        RevisionWrite x = new RevisionWrite();
        boolean behind = place > 5000;
        for (int n = 1; behind && n <= 38; n++) {
            x.object(n, 120);
        }
        int left = place - (behind ? x.write(0) : 4);
        int next = 1;
        while (left > 250) {
            x.object(next, 120);
            left -= recordSize(next, 120);
            next++;
        }
        fill(x, next, left);
        if (more) {
            x.object(40, 0);
        }
        Check.due("a part", behind ? x.append() > 0 : x.write(0) > 0, true);
        return x;
    }

    /** Brings object n, or also the next one, so that their records have so many bytes. */
    private static void fill(RevisionWrite x, int n, int bytes) {
        for (int one = 0; bytes > 0 && one <= 120; one++) {
            for (int other = -1; other <= 120; other++) {
                if (recordSize(n, one) + recordSize(n + 1, other) == bytes) {
                    x.object(n, one);
                    if (other >= 0) {
                        x.object(n + 1, other);
                    }
                    return;
                }
            }
        }
    }

    private static int recordSize(int n, int length) {
        return length < 0 ? 0 : ("o " + n + " " + length + "\n\n").length() + length;
    }

    private static String ending(RevisionWrite x) {
        StringBuilder text = new StringBuilder();
        int size = x.told(0);
        for (int i = Math.max(0, size - 40); i < size; i++) {
            text.append((char) (x.at(i) & 255));
        }
        return text.toString();
    }

    // ROWS: a line "x C": how many; C lines .. N from less to greater
    private static void rowsOfNoneAndOfAll() {
        Check.due("no rows", Check.fileOf(written(0)), "%F1\nx 0\np 0\ne 4\n");
        RevisionWrite all = downFrom40();
        int first = all.told(0);
        StringBuilder rows = new StringBuilder("x 40\n");
        StringBuilder gone = new StringBuilder("x 40\n");
        for (int n = 1; n <= 40; n++) {
            rows.append(n + " " + all.place(0, n) + "\n");
            gone.append(n + " -\n");
        }
        Check.due("forty rows", Check.fileOf(BoundaryTest::downFrom40).contains("\n" + rows + "p 0\n"), true);
        Check.due("forty are gone", Check.fileOf(BoundaryTest::allGone).substring(first).startsWith(gone + "p "), true);
        RevisionWrite x = allGone();
        Check.due("forty are gone: read", x.read(), 2);
        told("forty are gone", x, x.told(0), 2, 0, 0, 0);
    }

    private static RevisionWrite downFrom40() {
        RevisionWrite x = new RevisionWrite();
        for (int n = 40; n >= 1; n--) {
            x.object(n, 0);
        }
        x.write(0);
        return x;
    }

    private static RevisionWrite allGone() {
        RevisionWrite x = downFrom40();
        for (int n = 40; n >= 1; n--) {
            x.drop(n);
        }
        x.append();
        return x;
    }

    // "p Q": the place of the x of the PART before, 0 without one; "e X": the place of its own x
    private static void partBeforeOr0() {
        int before = 0;
        for (int parts = 1; parts <= 60; parts++) {
            RevisionWrite x = withParts(parts);
            int from = parts == 1 ? 0 : x.size(parts - 2);
            StringBuilder part = new StringBuilder();
            for (int i = from; i < x.told(0); i++) {
                part.append((char) x.at(i));
            }
            int own = from + part.lastIndexOf("\nx ") + 1;
            Check.due("part " + parts, part.toString().endsWith("\np " + before + "\ne " + own + "\n"), true);
            before = own;
        }
    }

    // A REVISION is what is told up to a PART: of each object the latest row counts
    private static void latestRowCounts() {
        RevisionWrite x = written(1);
        x.drop(1);
        x.append();
        x.object(2, 0);
        x.append();
        x.object(1, 0);
        x.append();
        x.object(1, 3);
        x.append();
        x.drop(2);
        x.append();
        for (int round = 0; round < 2; round++) {
            int[] ones = {4, -1, -1, x.size(2), x.size(3), x.size(3)};
            int[] twos = {-1, -1, x.size(1), x.size(1), x.size(1), -1};
            for (int r = 0; r < 6; r++) {
                Check.due("1 in " + r, x.place(r, 1), ones[r]);
                Check.due("2 in " + r, x.place(r, 2), twos[r]);
            }
            Check.due("read", x.read(), 6);
        }
        Check.due("1", x.length(1), 3);
        Check.due("2", x.length(2), -1);
        Check.due("taken out", x.take(3), 4);
        Check.due("1 then", x.length(1), 0);
        Check.due("2 then", x.length(2), 0);
        Check.due("taken out further", x.take(1), 2);
        told("none then", x, x.size(1), 2, 0, 0, 0);
    }

    // REVISIONS are numbered 0, 1, .. from the first PART on; the SIZE of one is the place behind its END
    private static void sizeBehindItsEnd() {
        RevisionWrite x = written(0);
        int[] sizes = new int[60];
        for (int r = 0; r < 60; r++) {
            sizes[r] = x.told(0);
            Check.due("size " + r, x.size(r), sizes[r]);
            int next = r + 1;
            Check.noPlace("size " + next, () -> x.size(next));
            x.object(1, r);
            if (r < 59) {
                Check.due("bytes more", x.append(), x.told(0) - sizes[r]);
            }
        }
        Check.due("read", x.read(), 60);
        for (int r = 0; r < 60; r++) {
            Check.due("read: size " + r, x.size(r), sizes[r]);
            Check.due("the byte before it", x.at(sizes[r] - 1), 10);
        }
    }

    // CHANGED are objects that came (also anew)
    private static void changedCame() {
        RevisionWrite x = written(2);
        told("none", x, x.told(0), 1, 2, 0, 0);
        x.object(3, 0);
        told("one came", x, x.told(0), 1, 3, 1, 0);
        x.object(1, 0);
        told("one came anew", x, x.told(0), 1, 3, 2, 0);
        x.object(1, 0);
        told("the same one", x, x.told(0), 1, 3, 2, 0);
        for (int n = 1; n <= 40; n++) {
            x.object(n, 1);
        }
        told("all came", x, x.told(0), 1, 40, 40, 0);
    }

    // or of which a byte became another one
    private static void changedByte() {
        RevisionWrite x = new RevisionWrite();
        x.object(1, 120);
        x.object(2, 120);
        x.write(0);
        x.octet(1, 0, (byte) 0);
        x.octet(1, 119, (byte) 0);
        Check.due("the same byte", x.told(3), 0);
        x.octet(1, 119, (byte) -128);
        Check.due("another byte", x.told(3), 1);
        x.octet(1, 119, (byte) 0);
        Check.due("it became another one all the same", x.told(3), 1);
        x.first(2, true);
        Check.due("FIRST is no byte", x.told(3), 1);
        Check.due("one row", x.append() > 0, true);
        Check.due("FIRST stays", x.first(2, true), false);
        x.first(2, false);
        Check.due("nothing behind it", x.append(), 0);
    }

    // or that went, since the latest time at which all were SAVED
    private static void changedWent() {
        RevisionWrite x = written(40);
        for (int n = 1; n <= 40; n++) {
            x.drop(n);
            told("went", x, x.told(0), 1, 40 - n, n, 0);
        }
        x.drop(1);
        Check.due("one that is not there", x.told(3), 40);
        x.object(1, 0);
        told("went and came", x, x.told(0), 1, 1, 40, 0);
        x.drop(1);
        told("went, came and went", x, x.told(0), 1, 0, 40, 0);
        x.append();
        told("saved", x, x.told(0), 2, 0, 0, 0);
        x.drop(1);
        Check.due("gone since long", x.told(3), 0);
    }

    // but not those that came since and went again
    private static void changedCameAndWent() {
        RevisionWrite x = written(1);
        x.object(2, 1);
        x.octet(2, 0, (byte) 1);
        x.first(2, true);
        x.drop(2);
        told("came and went", x, x.told(0), 1, 1, 0, 0);
        Check.due("nothing is written", x.append(), 0);
        x.object(2, 0);
        told("and came", x, x.told(0), 1, 2, 1, 0);
        x.append();
        x.drop(2);
        Check.due("saved between", x.told(3), 1);
        x.append();
        x.object(2, 0);
        x.drop(2);
        Check.due("went, saved, came and went", x.told(3), 0);
        x.object(1, 0);
        x.drop(1);
        Check.due("one that the file has still", x.told(3), 1);
        x.append();
        Check.due("it is gone there", x.place(3, 1), -1);
        RevisionWrite y = new RevisionWrite();
        y.object(1, 0);
        y.drop(1);
        Check.due("before any file", y.told(3), 0);
    }

    // By both all are SAVED; Without a FAULT .. all are SAVED
    private static void changedSinceSaved() {
        for (int how = 0; how < 4; how++) {
            RevisionWrite x = written(3);
            x.object(1, 2);
            x.octet(1, 0, (byte) 5);
            x.drop(2);
            x.object(4, 0);
            Check.due("changed", x.told(3), 3);
            if (how == 0) {
                x.write(0);
            } else if (how == 1) {
                x.append();
            } else if (how == 2) {
                x.read();
            } else {
                x.take(0);
            }
            Check.due("saved by " + how, x.told(3), 0);
            Check.due("nothing behind, saved by " + how, x.append(), 0);
            x.drop(3);
            Check.due("since saved by " + how, x.told(3), 1);
            x.drop(4);
            Check.due("another since saved by " + how, x.told(3), how < 2 ? 2 : 1);
            x.drop(2);
            Check.due("a third one since saved by " + how, x.told(3), 2);
        }
    }

    // their RECORDS by numbers (how = 0)
    private static void wholeByNumbers() {
        RevisionWrite x = new RevisionWrite();
        x.object(40, 0);
        x.object(2, 5);
        x.object(1, 9);
        x.first(40, true);
        x.write(0);
        Check.due("by numbers", Check.recordsOf(x), "1 2 40 ");
    }

    // by how many bytes, of as many by numbers (1)
    private static void wholeByHowManyBytes() {
        RevisionWrite x = new RevisionWrite();
        int[][] all = {{1, 120}, {2, 9}, {3, 10}, {4, 0}, {37, 10}, {38, 119}, {39, 0}, {40, 9}};
        for (int[] each : all) {
            x.object(each[0], each[1]);
        }
        x.first(1, true);
        x.write(1);
        Check.due("by how many bytes", Check.recordsOf(x), "4 39 2 40 3 37 38 1 ");
        RevisionWrite same = new RevisionWrite();
        same.object(3, 7);
        same.object(1, 7);
        same.object(2, 7);
        same.write(1);
        Check.due("all of as many", Check.recordsOf(same), "1 2 3 ");
        Check.due("none", new RevisionWrite().write(1), 16);
    }

    // first those that are FIRST, then the others, by numbers (2)
    private static void wholeByFirst() {
        RevisionWrite x = new RevisionWrite();
        for (int n = 1; n <= 4; n++) {
            x.object(n, 4 - n);
        }
        x.write(2);
        Check.due("none is FIRST", Check.recordsOf(x), "1 2 3 4 ");
        x.first(4, true);
        x.first(2, true);
        x.write(2);
        Check.due("two are FIRST", Check.recordsOf(x), "2 4 1 3 ");
        x.write(2);
        Check.due("they are still", Check.recordsOf(x), "2 4 1 3 ");
        x.first(1, true);
        x.first(3, true);
        x.write(2);
        Check.due("all are FIRST", Check.recordsOf(x), "1 2 3 4 ");
        x.object(2, 1);
        x.first(3, false);
        x.write(2);
        Check.due("one anew and one no more", Check.recordsOf(x), "1 4 2 3 ");
        x.drop(4);
        x.object(4, 0);
        x.write(2);
        Check.due("one that went and came", Check.recordsOf(x), "1 2 3 4 ");
        Check.due("none", new RevisionWrite().write(2), 16);
    }

    // RECORDS of all that are CHANGED and there, by numbers, ROWS of all that are CHANGED
    private static void behindOnlyChanged() {
        RevisionWrite x = written(3);
        int first = x.told(0);
        x.first(3, true);
        x.drop(1);
        x.object(40, 0);
        x.object(3, 2);
        x.object(5, 0);
        x.drop(5);
        String records = "o 3 2\n\0\0\no 40 0\n\n";
        int own = first + records.length();
        String part = records + "x 3\n1 -\n3 " + first + "\n40 " + (first + 9) + "\np 25\ne " + own + "\n";
        Check.due("behind", x.append(), part.length());
        Check.due("the part", Check.fileOf(x).substring(first), part);
    }

    // where several exceptions that a call names fit, it is the one that it names first
    private static void firstNamedExceptionFirst() {
        RevisionWrite x = new RevisionWrite();
        for (int length : new int[] {-1, 121, LEAST, GREATEST}) {
            Check.noPlace("no object, no length", () -> x.object(0, length));
            Check.noPlace("no object, no length", () -> x.object(41, length));
        }
        RevisionWrite many = withParts(60);
        many.object(2, 0);
        many.poke(0, (byte) '%');
        Check.refused("altered, 60 parts", IllegalStateException.class, many::append);
        RevisionWrite full = Check.lacking(0);
        full.drop(1);
        Check.refused("full", UnsupportedOperationException.class, full::append);
        full.poke(0, (byte) '%');
        Check.refused("altered, full", IllegalStateException.class, full::append);
    }

    // An object comes, in place of one that is there, with so many bytes 0; it is not FIRST
    private static void objectInPlaceOfOne() {
        for (int length : new int[] {0, 1, 5, 119, 120}) {
            RevisionWrite x = new RevisionWrite();
            Check.bring(x, 40, "q".repeat(120));
            x.first(40, true);
            x.object(40, length);
            Check.due("in place of one", Check.objectOf(x, 40), "\0".repeat(length));
            Check.due("it is not FIRST", x.first(40, false), false);
            told("in place of one", x, 0, 0, 1, 1, 0);
            x.object(40, 120);
            Check.due("longer again", Check.objectOf(x, 40), "\0".repeat(120));
        }
        RevisionWrite x = new RevisionWrite();
        Check.bring(x, 40, "q");
        x.first(40, true);
        x.drop(40);
        x.object(40, 1);
        Check.due("where one went", Check.objectOf(x, 40), "\0");
        Check.due("where one went: it is not FIRST", x.first(40, true), true);
    }

    // A byte of an object: what it was. IndexOutOfBoundsException (also when the object is not there)
    private static void octetTellsWhatItWas() {
        RevisionWrite x = new RevisionWrite();
        x.object(1, 120);
        byte[] values = {-128, -1, 0, 1, 10, 127};
        byte was = 0;
        for (byte b : values) {
            Check.due("what it was", x.octet(1, 119, b), was);
            Check.due("what it is", x.byteOf(1, 119), b);
            was = b;
        }
        Check.noPlace("byte 120", () -> x.octet(1, 120, (byte) 1));
        Check.noPlace("byte -1", () -> x.octet(1, -1, (byte) 1));
        Check.noPlace("one that is not there", () -> x.octet(2, 0, (byte) 1));
        x.drop(1);
        Check.noPlace("one that went", () -> x.octet(1, 0, (byte) 1));
        x.object(1, 0);
        Check.noPlace("one without bytes", () -> x.octet(1, 0, (byte) 1));
    }

    // An object goes: whether it was there
    private static void dropTellsWhetherItWasThere() {
        RevisionWrite x = new RevisionWrite();
        for (int n : new int[] {1, 40}) {
            Check.due("not yet", x.drop(n), false);
            x.object(n, 0);
            Check.due("there", x.drop(n), true);
            Check.due("gone", x.drop(n), false);
            Check.due("gone: length", x.length(n), -1);
        }
        x.object(1, 0);
        x.write(0);
        x.drop(1);
        x.read();
        Check.due("there by a reading", x.drop(1), true);
    }

    // An object is FIRST, or not: whether it was not so. IndexOutOfBoundsException (also when it is not there)
    private static void firstTellsWhetherItWasNotSo() {
        RevisionWrite x = new RevisionWrite();
        x.object(1, 0);
        boolean[][] calls = {{false, false}, {true, true}, {true, false}, {false, true}, {false, false}};
        for (boolean[] each : calls) {
            Check.due("first " + each[0], x.first(1, each[0]), each[1]);
        }
        Check.noPlace("not there", () -> x.first(2, true));
        Check.noPlace("not there, not FIRST", () -> x.first(2, false));
        x.first(1, true);
        x.write(0);
        Check.due("FIRST stays by a writing", x.first(1, true), false);
        x.object(2, 0);
        x.append();
        Check.due("FIRST stays by a writing behind", x.first(1, true), false);
        x.read();
        Check.due("none is FIRST by a reading", x.first(1, true), true);
        x.take(0);
        Check.due("none is FIRST by a taking", x.first(1, true), true);
    }

    // IllegalArgumentException when how is not 0 .. 2
    private static void writeHow() {
        for (int how = 0; how <= 2; how++) {
            RevisionWrite x = new RevisionWrite();
            Check.due("how " + how, x.write(how), 16);
            told("how " + how, x, 16, 1, 0, 0, 0);
        }
        RevisionWrite x = new RevisionWrite();
        for (int how : new int[] {-1, 3, 256, LEAST, GREATEST}) {
            Check.refused("how " + how, IllegalArgumentException.class, () -> x.write(how));
        }
        told("no how", x, 0, 0, 0, 0, 0);
    }

    private static void changesNothing(String what, Supplier<RevisionWrite> maker) {
        Supplier<RevisionWrite> behind = () -> {
            RevisionWrite x = maker.get();
            Check.due(what, x.append(), 0);
            return x;
        };
        Check.due(what + ": nothing", State.of(behind).equals(State.of(maker)), true);
    }

    // 0, and nothing, when none are CHANGED
    private static void appendOfNone() {
        changesNothing("no objects", () -> written(0));
        changesNothing("all objects", () -> written(40));
        changesNothing("60 parts", () -> withParts(60));
        changesNothing("12000 bytes", () -> Check.lacking(0));
        changesNothing("only FIRST ones", () -> {
            RevisionWrite x = written(2);
            x.first(2, true);
            return x;
        });
    }

    // IllegalStateException when the file is empty, or was altered since it was written or READ
    private static void appendToEmptyOrAltered() {
        RevisionWrite empty = new RevisionWrite();
        Check.refused("empty, none changed", IllegalStateException.class, empty::append);
        empty.object(1, 0);
        Check.refused("empty, one changed", IllegalStateException.class, empty::append);
        for (int mend = 0; mend < 4; mend++) {
            RevisionWrite x = written(1);
            x.poke(15, x.at(15));
            Check.refused("altered, none changed", IllegalStateException.class, x::append);
            x.object(2, 0);
            Check.refused("altered, one changed", IllegalStateException.class, x::append);
            if (mend == 0) {
                x.write(0);
            } else if (mend == 1) {
                x.read();
            } else if (mend == 2) {
                x.take(0);
            } else {
                x.poke(0, (byte) 0);
                x.read();
            }
            x.object(3, 0);
            if (mend < 3) {
                Check.due("not altered since, by " + mend, x.append() > 0, true);
            } else {
                Check.refused("a reading with a fault mends nothing", IllegalStateException.class, x::append);
            }
        }
    }

    // UnsupportedOperationException when there would be more than 12000 bytes
    private static void appendUpTo12000() {
        int gone = "x 1\n1 -\np 10000\ne 10000\n".length();
        int empty = "o 1 0\n\nx 1\n1 10000\np 10000\ne 10000\n".length();
        int longest = "o 1 120\n\nx 1\n1 10000\np 10000\ne 10000\n".length() + 120;
        for (int spare = -1; spare <= 1; spare++) {
            RevisionWrite x = Check.lacking(gone + spare);
            x.drop(1);
            bounded("one that went", x, gone, spare);
            RevisionWrite y = Check.lacking(empty + spare);
            y.object(1, 0);
            bounded("an empty one", y, empty, spare);
            RevisionWrite z = Check.lacking(longest + spare);
            z.object(1, 120);
            bounded("the longest one", z, longest, spare);
        }
        RevisionWrite x = Check.lacking(0);
        for (int n = 1; n <= 40; n++) {
            x.object(n, 120);
        }
        Check.refused("a great part behind a full file", UnsupportedOperationException.class, x::append);
        told("a great part behind a full file", x, 12000, x.told(1), 40, 40, 0);
    }

    private static void bounded(String what, RevisionWrite x, int part, int spare) {
        int size = x.told(0);
        int parts = x.told(1);
        int there = x.told(2);
        if (spare < 0) {
            Check.refused(what + " in " + (part + spare), UnsupportedOperationException.class, x::append);
            told(what + ", refused", x, size, parts, there, 1, 0);
        } else {
            Check.due(what + " in " + (part + spare), x.append(), part);
            told(what, x, 12000 - spare, parts + 1, there, 0, 0);
            Check.due(what + ": read", x.read(), parts + 1);
        }
    }

    // or 60 PARTS
    private static void appendUpTo60Parts() {
        RevisionWrite x = withParts(59);
        x.object(2, 0);
        Check.due("the 60th", x.append() > 0, true);
        told("the 60th", x, x.told(0), 60, 2, 0, 0);
        int size = x.told(0);
        x.drop(2);
        Check.refused("the 61st", UnsupportedOperationException.class, x::append);
        told("the 61st", x, size, 60, 1, 1, 0);
        Check.due("read", x.read(), 60);
        x.drop(2);
        Check.refused("the 61st behind a reading", UnsupportedOperationException.class, x::append);
        Check.due("taken out", x.take(58), 59);
        x.object(2, 1);
        Check.due("the 60th again", x.append() > 0, true);
        x.object(2, 2);
        Check.refused("the 61st again", UnsupportedOperationException.class, x::append);
        Check.due("written whole", x.write(0) > 0, true);
        x.object(2, 3);
        Check.due("the second", x.append() > 0, true);
        Check.due("parts", x.told(1), 2);
    }

    // how many REVISIONS; or -1 less the place of the FAULT, and nothing is changed
    private static void readTellsRevisionsOrPlace() {
        Check.due("empty", new RevisionWrite().read(), -1);
        Check.due("one", written(0).read(), 1);
        Check.due("two", withParts(2).read(), 2);
        Check.due("59", withParts(59).read(), 59);
        Check.due("60", withParts(60).read(), 60);
        RevisionWrite x = written(0);
        x.poke(0, (byte) 0);
        Check.due("place 0", x.read(), -1);
        RevisionWrite full = Check.lacking(0);
        full.poke(11999, (byte) 11);
        Check.due("place 12000", full.read(), -12001);
        full.poke(11999, (byte) 10);
        full.poke(11992, (byte) 'f');
        Check.due("place 11992", full.read(), -11993);
    }

    // (Then the file is altered, also by the same one.)
    private static void pokeAlters() {
        for (int i : new int[] {0, 15}) {
            RevisionWrite x = written(0);
            byte was = x.at(i);
            Check.due("the same one at " + i, x.poke(i, was), was);
            told("the same one at " + i, x, 16, 1, 0, 0, 1);
            Check.due("read", x.read(), 1);
            told("read", x, 16, 1, 0, 0, 0);
            Check.due("another one at " + i, x.poke(i, (byte) -128), was);
            Check.due("and back", x.poke(i, was), -128);
            told("and back", x, 16, 1, 0, 0, 1);
        }
        RevisionWrite x = written(0);
        for (int i : new int[] {-1, 16, 12000, LEAST, GREATEST}) {
            Check.noPlace("poke " + i, () -> x.poke(i, (byte) 1));
        }
        told("no place", x, 16, 1, 0, 0, 0);
    }

    // The file becomes the first bytes of it, up to the SIZE of a REVISION, and is READ: as read()
    private static void takeUpToSize() {
        for (int r : new int[] {0, 1, 58, 59}) {
            int size = withParts(60).size(r);
            Check.due("the file of " + r, Check.fileOf(() -> taken(r)), Check.fileOf(() -> withParts(60)).substring(0, size));
            RevisionWrite y = taken(r);
            told("take " + r, y, size, r + 1, r == 0 ? 0 : 1, 0, 0);
            Check.due("object 1 of " + r, y.length(1), r == 0 ? -1 : r % 2);
            Check.noPlace("no revision behind it", () -> y.size(r + 1));
        }
        RevisionWrite x = withParts(60);
        for (int r : new int[] {-1, 60, LEAST, GREATEST}) {
            Check.noPlace("take " + r, () -> x.take(r));
        }
        RevisionWrite one = written(1);
        one.object(1, 7);
        Check.noPlace("take 1 of one", () -> one.take(1));
        Check.due("take 0 of one", one.take(0), 1);
        Check.due("what came since is forgotten", one.length(1), 0);
    }

    private static RevisionWrite taken(int revision) {
        RevisionWrite x = withParts(60);
        Check.due("take " + revision, x.take(revision), revision + 1);
        return x;
    }

    // (Where the SIZE is beyond the file as it is now, all of it.)
    private static void takeOfSizeBeyondTheFile() {
        for (int r = 0; r < 3; r++) {
            RevisionWrite x = withParts(4);
            int first = x.size(1);
            x.poke(0, (byte) 0);
            Check.due("the first line", x.take(1), -1);
            told("shorter", x, first, 4, 1, 0, 1);
            x.poke(0, (byte) '%');
            Check.due("the file's own SIZE or beyond it", x.take(1 + r), 2);
            told("all of it", x, first, 2, 1, 0, 0);
        }
    }

    // With a FAULT it is so short all the same, and altered; what was known of REVISIONS stays
    private static void takeWithFault() {
        for (int r : new int[] {0, 1, 2}) {
            RevisionWrite x = withParts(3);
            x.object(2, 2);
            x.first(2, true);
            int[] sizes = {x.size(0), x.size(1), x.size(2)};
            x.poke(3, (byte) ' ');
            Check.due("the first line", x.take(r), -1);
            told("so short", x, sizes[r], 3, 2, 1, 1);
            Check.noPlace("its end", () -> x.at(sizes[r]));
            for (int k = 0; k < 3; k++) {
                Check.due("known: size " + k, x.size(k), sizes[k]);
                Check.due("known: place " + k, x.place(k, 1), k == 0 ? -1 : sizes[k - 1]);
            }
            Check.due("objects stay", x.length(2), 2);
            Check.due("FIRST stays", x.first(2, true), false);
            Check.refused("it is altered", IllegalStateException.class, x::append);
        }
        RevisionWrite x = withParts(3);
        x.poke(x.size(0) - 1, (byte) 0);
        Check.due("the last byte of it", x.take(0), -1 - x.size(0));
    }

    // How many bytes of an object; NONE when it is not there
    private static void lengthOrNone() {
        RevisionWrite x = new RevisionWrite();
        Check.due("not there", x.length(1), RevisionWrite.NONE);
        x.object(1, 0);
        Check.due("none", x.length(1), 0);
        x.object(1, 120);
        Check.due("the most", x.length(1), 120);
        x.drop(1);
        Check.due("gone", x.length(1), RevisionWrite.NONE);
    }

    // A byte of an object. IndexOutOfBoundsException
    private static void byteOfObject() {
        RevisionWrite x = new RevisionWrite();
        x.object(40, 120);
        x.octet(40, 0, (byte) 1);
        x.octet(40, 119, (byte) -2);
        Check.due("the first", x.byteOf(40, 0), 1);
        Check.due("the last", x.byteOf(40, 119), -2);
        for (int i : new int[] {-1, 120, LEAST, GREATEST}) {
            Check.noPlace("byte " + i, () -> x.byteOf(40, i));
        }
        x.object(40, 119);
        Check.noPlace("one fewer", () -> x.byteOf(40, 119));
        x.object(40, 0);
        Check.noPlace("none", () -> x.byteOf(40, 0));
        Check.noPlace("not there", () -> x.byteOf(39, 0));
    }

    // by the latest writing or READING; NONE when it is not in it. (REVISION, then object)
    private static void sizeAndPlaceOfRevision() {
        RevisionWrite x = withParts(60);
        Check.due("size 0", x.size(0), 16);
        Check.due("size 59", x.size(59), x.told(0));
        Check.due("place (0, 1)", x.place(0, 1), RevisionWrite.NONE);
        Check.due("place (1, 1)", x.place(1, 1), 16);
        Check.due("place (59, 1)", x.place(59, 1), x.size(58));
        Check.due("place (59, 40)", x.place(59, 40), RevisionWrite.NONE);
        for (int r : new int[] {-1, 60, LEAST, GREATEST}) {
            Check.noPlace("size " + r, () -> x.size(r));
            Check.noPlace("place in " + r, () -> x.place(r, 1));
            Check.noPlace("place of none in " + r, () -> x.place(r, 0));
        }
        x.object(1, 9);
        x.drop(1);
        x.poke(16, (byte) 0);
        Check.due("a fault", x.read(), -17);
        Check.due("the latest without a fault", x.place(1, 1), 16);
        x.write(0);
        Check.noPlace("written whole", () -> x.size(1));
        Check.due("written whole: size", x.size(0), 16);
        Check.due("written whole: place", x.place(0, 1), RevisionWrite.NONE);
    }

    private static void pair(String one, String other, int due) {
        RevisionWrite x = written(0);
        Check.bring(x, 7, one);
        x.append();
        Check.bring(x, 7, other);
        x.append();
        Check.due(Check.shown(one) + " and " + Check.shown(other), x.differ(1, 2), due);
        Check.due("rows", Check.rowsOf(x), due);
        if (due == 1) {
            Check.due("in both", x.row(0, 1), 3);
        }
        Check.due("back", x.differ(2, 1), due);
    }

    // only in one, or with other bytes
    private static void differOfBytes() {
        pair("", "", 0);
        pair("", "\0", 1);
        pair("\0", "", 1);
        pair("a", "a", 0);
        pair("a", "b", 1);
        pair("\u0080", "\0", 1);
        pair("abc", "Abc", 1);
        pair("abc", "aBc", 1);
        pair("abc", "abC", 1);
        pair("abc", "ab", 1);
        pair("ab", "ab\n", 1);
        pair("123456789", "1234567890", 1);
        String longest = "z".repeat(119);
        pair(longest + "a", longest + "a", 0);
        pair(longest + "a", longest + "b", 1);
        pair(longest, longest + "z", 1);
    }

    private static void differOfNoneAndOfAll() {
        RevisionWrite x = written(0);
        for (int n = 1; n <= 40; n++) {
            x.object(n, n);
        }
        x.append();
        for (int n = 1; n <= 40; n++) {
            x.octet(n, n - 1, (byte) 1);
        }
        x.append();
        int[][] calls = {{0, 0, 0}, {1, 1, 0}, {2, 2, 0}, {0, 1, 1}, {1, 0, 2}, {1, 2, 3}, {2, 1, 3}};
        for (int[] each : calls) {
            Check.due("differ", x.differ(each[0], each[1]), each[2] == 0 ? 0 : 40);
            if (each[2] > 0) {
                Check.due("the first number", x.row(0, 0), 1);
                Check.due("the last number", x.row(39, 0), 40);
                Check.due("the first kind", x.row(0, 1), each[2]);
                Check.due("the last kind", x.row(39, 1), each[2]);
            }
            Check.noPlace("no more", () -> x.row(each[2] == 0 ? 0 : 40, 0));
        }
        for (int r : new int[] {-1, 3, LEAST, GREATEST}) {
            Check.noPlace("differ from " + r, () -> x.differ(r, 0));
            Check.noPlace("differ to " + r, () -> x.differ(0, r));
            Check.noPlace("differ of both " + r, () -> x.differ(r, r));
        }
    }

    // by their bytes at their places in the file as it is now
    private static void differInTheFileAsItIsNow() {
        RevisionWrite x = new RevisionWrite();
        Check.bring(x, 1, "abc");
        x.write(0);
        Check.bring(x, 1, "abc");
        x.append();
        int from = x.place(1, 1) + "o 1 3\n".length();
        for (int i = -1; i <= 3; i++) {
            byte was = x.poke(from + i, (byte) '?');
            Check.due("byte " + i + " as it is now", x.differ(0, 1), i >= 0 && i < 3 ? 1 : 0);
            x.poke(from + i, was);
            Check.due("byte " + i + " as it was", x.differ(0, 1), 0);
        }
        x.octet(1, 0, (byte) '?');
        Check.due("objects are not the file", x.differ(0, 1), 0);
    }

    // IndexOutOfBoundsException, also for what, and before any
    private static void rowOfDifferences() {
        RevisionWrite x = written(3);
        Check.noPlace("before any", () -> x.row(0, 0));
        Check.noPlace("before any: kind", () -> x.row(0, 1));
        x.drop(2);
        x.append();
        Check.due("differ", x.differ(0, 1), 1);
        Check.due("number", x.row(0, 0), 2);
        Check.due("kind", x.row(0, 1), 2);
        for (int i : new int[] {-1, 1, 2, 40, LEAST, GREATEST}) {
            Check.noPlace("row " + i, () -> x.row(i, 0));
            Check.noPlace("row " + i + ": kind", () -> x.row(i, 1));
        }
        for (int what : new int[] {-1, 2, LEAST, GREATEST}) {
            Check.noPlace("what " + what, () -> x.row(0, what));
        }
        x.write(0);
        x.read();
        x.take(0);
        Check.due("at the latest differ()", x.row(0, 0), 2);
        Check.noPlace("a refused differ", () -> x.differ(0, 1));
        Check.due("is none", x.row(0, 1), 2);
        x.differ(0, 0);
        Check.noPlace("the latest one has none", () -> x.row(0, 0));
    }

    // NONE for others
    private static void toldAndNone() {
        RevisionWrite x = written(2);
        x.drop(1);
        x.poke(0, (byte) '%');
        told("all five", x, 40, 1, 1, 1, 1);
        for (int what : new int[] {-1, 5, 256, LEAST, GREATEST}) {
            Check.due("told " + what, x.told(what), RevisionWrite.NONE);
        }
    }
}
