/** Each promise of the document: ordinary inputs, the edges that it names, wrong inputs. */
public final class PromiseTest {
    private static final int[] NO_OBJECTS = {0, 41, -1, Integer.MIN_VALUE, Integer.MAX_VALUE};

    public static void main(String[] args) {
        promise1New();
        promise2Object();
        promise3Octet();
        promise4Drop();
        promise5First();
        promise6Write();
        promise6Orders();
        promise7Append();
        promise7Limits();
        changedOnes();
        promise8Read();
        promise8Lengths();
        promise9Poke();
        promise10Take();
        promise10TakeWithFault();
        promise11At();
        promise12Length();
        promise13ByteOf();
        promise14Size();
        promise15Place();
        promise16Differ();
        promise16AsItIsNow();
        promise17Row();
        promise18Told();
        Check.end();
    }

    private static void told(String what, RevisionWrite x, int... want) {
        for (int i = 0; i < want.length; i++) {
            Check.due(what + ": told(" + i + ")", x.told(i), want[i]);
        }
    }

    private static void promise1New() {
        RevisionWrite x = new RevisionWrite();
        told("new", x, 0, 0, 0, 0, 0);
        for (int n = 1; n <= 40; n++) {
            Check.due("new: length", x.length(n), -1);
        }
        Check.noPlace("new: at", () -> x.at(0));
        Check.noPlace("new: size", () -> x.size(0));
        Check.noPlace("new: row", () -> x.row(0, 0));
        Check.due("new: read", x.read(), -1);
        RevisionWrite other = new RevisionWrite();
        x.object(1, 1);
        x.write(0);
        told("another new one", other, 0, 0, 0, 0, 0);
    }

    private static void promise2Object() {
        RevisionWrite x = new RevisionWrite();
        for (int n : NO_OBJECTS) {
            Check.noPlace("object " + n, () -> x.object(n, 1));
            Check.noPlace("object " + n + " of a wrong length too", () -> x.object(n, 121));
        }
        for (int length : new int[] {-1, 121, Integer.MIN_VALUE, Integer.MAX_VALUE}) {
            Check.refused("length " + length, IllegalArgumentException.class, () -> x.object(1, length));
        }
        told("after refusals", x, 0, 0, 0, 0, 0);
        x.object(1, 0);
        x.object(40, 120);
        Check.due("length(1)", x.length(1), 0);
        Check.due("length(40)", x.length(40), 120);
        for (int i = 0; i < 120; i++) {
            x.octet(40, i, (byte) (i + 1));
        }
        x.first(40, true);
        x.object(40, 120);
        Check.due("bytes are 0 anew", Check.objectOf(x, 40), "\0".repeat(120));
        Check.due("it is not FIRST anew", x.first(40, false), false);
        x.octet(40, 1, (byte) 7);
        Check.refused("a wrong length changes nothing", IllegalArgumentException.class, () -> x.object(40, 121));
        Check.due("its byte stays", x.byteOf(40, 1), 7);
        told("two there", x, 0, 0, 2, 2, 0);
    }

    private static void promise3Octet() {
        RevisionWrite x = new RevisionWrite();
        x.object(1, 2);
        x.object(2, 2);
        Check.due("what it was", x.octet(1, 1, (byte) -128), 0);
        Check.due("what it was then", x.octet(1, 1, (byte) 127), -128);
        Check.due("the other byte", x.byteOf(1, 0), 0);
        Check.due("the next object", Check.objectOf(x, 2), "\0\0");
        for (int n : NO_OBJECTS) {
            Check.noPlace("octet of object " + n, () -> x.octet(n, 0, (byte) 1));
        }
        for (int i : new int[] {-1, 2, 120, Integer.MIN_VALUE, Integer.MAX_VALUE}) {
            Check.noPlace("octet " + i, () -> x.octet(1, i, (byte) 1));
        }
        Check.noPlace("octet of one not there", () -> x.octet(3, 0, (byte) 1));
        x.object(4, 0);
        Check.noPlace("octet of an empty one", () -> x.octet(4, 0, (byte) 1));
        x.drop(1);
        Check.noPlace("octet of one that went", () -> x.octet(1, 0, (byte) 1));
    }

    private static void promise4Drop() {
        RevisionWrite x = new RevisionWrite();
        for (int n : NO_OBJECTS) {
            Check.noPlace("drop " + n, () -> x.drop(n));
        }
        x.object(1, 3);
        x.object(40, 3);
        Check.due("not there", x.drop(2), false);
        Check.due("there", x.drop(40), true);
        Check.due("gone", x.drop(40), false);
        Check.due("gone: length", x.length(40), -1);
        Check.due("the other stays", x.length(1), 3);
        told("one there", x, 0, 0, 1, 1, 0);
    }

    private static void promise5First() {
        RevisionWrite x = new RevisionWrite();
        x.object(1, 0);
        x.object(40, 0);
        Check.due("it is not FIRST already", x.first(1, false), false);
        Check.due("it becomes FIRST", x.first(1, true), true);
        Check.due("it is FIRST already", x.first(1, true), false);
        Check.due("it becomes not FIRST", x.first(1, false), true);
        Check.due("of another one", x.first(40, true), true);
        for (int n : NO_OBJECTS) {
            Check.noPlace("first " + n, () -> x.first(n, true));
        }
        Check.noPlace("first of one not there", () -> x.first(2, false));
        x.drop(40);
        Check.noPlace("first of one that went", () -> x.first(40, true));
        x.write(0);
        x.first(1, true);
        Check.due("FIRST is no change", x.told(3), 0);
    }

    private static void promise6Write() {
        RevisionWrite x = new RevisionWrite();
        for (int how : new int[] {-1, 3, Integer.MIN_VALUE, Integer.MAX_VALUE}) {
            Check.refused("how " + how, IllegalArgumentException.class, () -> x.write(how));
        }
        Check.due("nothing is written then", x.told(0), 0);
        Check.due("no objects", x.write(2), 16);
        Check.due("no objects: the file", Check.fileOf(x), "%F1\nx 0\np 0\ne 4\n");
        Check.bring(x, 3, "A\n\u00ff");
        Check.bring(x, 40, "");
        Check.bring(x, 1, "x 0\n");
        int size = x.write(0);
        String file = "%F1\no 1 4\nx 0\n\no 3 3\nA\n\u00ff\no 40 0\n\nx 3\n1 4\n3 15\n40 25\np 0\ne 33\n";
        Check.due("three objects: the file", Check.fileOf(x), file);
        Check.due("three objects: its size", size, file.length());
        told("three objects", x, file.length(), 1, 3, 0, 0);
        x.drop(3);
        x.append();
        x.poke(4, (byte) 1);
        x.write(0);
        Check.due("whole again", Check.fileOf(x), "%F1\no 1 4\nx 0\n\no 40 0\n\nx 2\n1 4\n40 15\np 0\ne 23\n");
        told("whole again", x, 46, 1, 2, 0, 0);
        greatest();
    }

    private static void greatest() {
        RevisionWrite x = new RevisionWrite();
        for (int n = 1; n <= 40; n++) {
            x.object(n, 120);
        }
        int rows = 0;
        for (int n = 1; n <= 40; n++) {
            int place = n < 10 ? 4 + (n - 1) * 129 : 4 + 9 * 129 + (n - 10) * 130;
            rows += String.valueOf(n).length() + String.valueOf(place).length() + 2;
        }
        Check.due("all of the greatest", x.write(0), 4 + 9 * 129 + 31 * 130 + 5 + rows + 4 + 7);
        Check.due("all of the greatest: read", x.read(), 1);
        told("all of the greatest", x, x.told(0), 1, 40, 0, 0);
    }

    private static void promise6Orders() {
        RevisionWrite x = new RevisionWrite();
        int[] lengths = {2, 0, 2, 1, 0, 3};
        for (int i = 0; i < lengths.length; i++) {
            x.object(i + 1, lengths[i]);
        }
        x.first(3, true);
        x.first(6, true);
        x.first(5, true);
        x.first(5, false);
        x.write(0);
        Check.due("by numbers", Check.recordsOf(x), "1 2 3 4 5 6 ");
        x.write(1);
        Check.due("by how many bytes", Check.recordsOf(x), "2 5 4 1 3 6 ");
        x.write(2);
        Check.due("FIRST ones before", Check.recordsOf(x), "3 6 1 2 4 5 ");
        x.octet(6, 0, (byte) 1);
        x.octet(1, 0, (byte) 1);
        x.octet(4, 0, (byte) 1);
        x.append();
        Check.due("behind, by numbers", Check.recordsOf(x), "3 2 5 1 4 6 ");
        x.read();
        x.write(2);
        Check.due("none is FIRST after a reading", Check.recordsOf(x), "1 2 3 4 5 6 ");
        for (int n = 1; n <= 6; n++) {
            Check.due("object " + n + " is not FIRST after a reading", x.first(n, false), false);
        }
    }

    private static void promise7Append() {
        RevisionWrite x = new RevisionWrite();
        Check.refused("an empty file", IllegalStateException.class, x::append);
        Check.bring(x, 2, "ab");
        Check.refused("an empty file still", IllegalStateException.class, x::append);
        Check.bring(x, 9, "c");
        x.write(0);
        String first = "%F1\no 2 2\nab\no 9 1\nc\nx 2\n2 4\n9 13\np 0\ne 21\n";
        Check.due("whole", Check.fileOf(x), first);
        Check.due("none changed", x.append(), 0);
        told("none changed", x, first.length(), 1, 2, 0, 0);
        x.octet(2, 1, (byte) 'B');
        x.drop(9);
        Check.bring(x, 40, "");
        Check.bring(x, 1, "\n");
        String second = "o 1 1\n\n\no 2 2\naB\no 40 0\n\nx 4\n1 43\n2 51\n9 -\n40 60\np 21\ne 68\n";
        Check.due("changed", x.append(), second.length());
        Check.due("behind", Check.fileOf(x), first + second);
        told("behind", x, first.length() + second.length(), 2, 3, 0, 0);
        x.drop(40);
        String third = "x 1\n40 -\np 68\ne 102\n";
        Check.due("one that went", x.append(), third.length());
        Check.due("only rows", Check.fileOf(x), first + second + third);
        x.octet(1, 0, (byte) 1);
        x.poke(1, (byte) 'F');
        Check.refused("poked by the same byte", IllegalStateException.class, x::append);
        told("refused", x, first.length() + second.length() + third.length(), 3, 2, 1, 1);
        Check.due("read again", x.read(), 3);
        Check.due("none changed since", x.append(), 0);
        Check.due("the byte is back", x.byteOf(1, 0), 10);
    }

    private static void promise7Limits() {
        RevisionWrite x = new RevisionWrite();
        x.write(0);
        for (int i = 1; i < 60; i++) {
            x.object(1, i % 3);
            Check.due("part " + i, x.append() > 0, true);
        }
        int size = x.told(0);
        Check.due("none changed at 60 parts", x.append(), 0);
        x.object(2, 0);
        Check.refused("a 61st part", UnsupportedOperationException.class, x::append);
        told("a 61st part", x, size, 60, 2, 1, 0);
        x.poke(0, (byte) '%');
        Check.refused("altered, before too many", IllegalStateException.class, x::append);
        Check.due("read all", x.read(), 60);
        fullFile();
    }

    /** Fills the file to its last byte: 12000 bytes are allowed, one more is not. */
    private static void fullFile() {
        RevisionWrite x = new RevisionWrite();
        for (int n = 1; n <= 40; n++) {
            x.object(n, 120);
        }
        x.write(0);
        for (int n = 1; n <= 40; n++) {
            x.object(n, 120);
        }
        x.append();
        int left = 12000 - x.told(0);
        for (int k = 0; k < 10 && left > 450; k++) {
            x.object(1, 120);
            left -= x.append();
        }
        // Places have five digits here, so a part with one record of two digits for its length has 36 bytes beside it.
        x.object(1, left - 272 - 36);
        left -= x.append();
        Check.due("bytes left", left, 272);
        int bytes = left - "o 1 100\n\no 2 100\n\nx 2\n1 10000\n2 10000\np 10000\ne 10000\n".length();
        x.object(1, 100);
        x.object(2, bytes - 100 + 1);
        int size = x.told(0);
        int parts = x.told(1);
        Check.refused("12001 bytes", UnsupportedOperationException.class, x::append);
        told("12001 bytes", x, size, parts, 40, 2, 0);
        Check.noPlace("12001 bytes: no revision", () -> x.size(parts));
        x.object(2, bytes - 100);
        Check.due("12000 bytes", x.append(), 12000 - size);
        told("12000 bytes", x, 12000, parts + 1, 40, 0, 0);
        Check.due("12000 bytes: the last one", x.at(11999), 10);
        Check.due("12000 bytes: read", x.read(), parts + 1);
        Check.due("whole at last", x.write(0) < 6000, true);
    }

    private static void changedOnes() {
        RevisionWrite x = new RevisionWrite();
        x.object(1, 1);
        x.drop(1);
        Check.due("came and went before any file", x.told(3), 0);
        for (int n = 1; n <= 6; n++) {
            x.object(n, 1);
        }
        Check.due("came", x.told(3), 6);
        x.write(0);
        Check.due("saved", x.told(3), 0);
        x.octet(1, 0, (byte) 0);
        Check.due("the same byte", x.told(3), 0);
        x.octet(1, 0, (byte) 5);
        x.octet(1, 0, (byte) 0);
        Check.due("there and back is changed", x.told(3), 1);
        x.object(2, 1);
        Check.due("came anew", x.told(3), 2);
        x.drop(3);
        Check.due("went", x.told(3), 3);
        x.drop(4);
        x.object(4, 1);
        Check.due("went and came", x.told(3), 4);
        x.object(5, 2);
        x.drop(5);
        Check.due("came anew and went: the file has it still", x.told(3), 5);
        x.object(7, 1);
        x.drop(7);
        x.drop(8);
        Check.due("came since and went", x.told(3), 5);
        x.append();
        Check.due("saved behind", x.told(3), 0);
        told("saved behind", x, x.told(0), 2, 4, 0, 0);
        Check.due("gone in the file", x.place(1, 5), -1);
        x.drop(5);
        Check.due("gone since long", x.told(3), 0);
        x.object(7, 1);
        x.read();
        Check.due("read: saved", x.told(3), 0);
        Check.due("read: it is not there", x.length(7), -1);
    }

    private static void promise8Read() {
        RevisionWrite x = new RevisionWrite();
        Check.due("empty", x.read(), -1);
        Check.bring(x, 1, "a");
        Check.bring(x, 2, "bc");
        x.first(2, true);
        x.write(0);
        x.octet(1, 0, (byte) 'A');
        x.drop(2);
        Check.bring(x, 3, "\u0080\n");
        x.append();
        x.object(1, 5);
        x.object(9, 5);
        x.drop(3);
        Check.due("two revisions", x.read(), 2);
        Check.due("1", Check.objectOf(x, 1), "A");
        Check.due("2", Check.objectOf(x, 2), "none");
        Check.due("3", Check.objectOf(x, 3), "\u0080\n");
        Check.due("9", Check.objectOf(x, 9), "none");
        told("read", x, x.told(0), 2, 2, 0, 0);
        x.octet(1, 0, (byte) 'z');
        x.first(1, true);
        x.poke(x.told(0) - 1, (byte) 11);
        Check.due("a fault", x.read(), -1 - x.told(0));
        told("a fault", x, x.told(0), 2, 2, 1, 1);
        Check.due("a fault changes no object", x.byteOf(1, 0), 'z');
        Check.due("a fault changes no FIRST", x.first(1, true), false);
        Check.due("a fault: sizes stay", x.size(1), x.told(0));
        Check.due("a fault: places stay", x.place(1, 2), -1);
    }

    /** Lengths of one, two and three digits, of objects that no later part tells again. */
    private static void promise8Lengths() {
        int[] lengths = {0, 1, 9, 10, 11, 99, 100, 101, 119, 120};
        for (int n : new int[] {1, 9, 10, 39, 40}) {
            for (int length : lengths) {
                String text = "z".repeat(Math.max(0, length - 1)) + (length > 0 ? "\n" : "");
                RevisionWrite x = new RevisionWrite();
                Check.bring(x, n, text);
                x.write(0);
                x.object(2, 1);
                x.append();
                x.drop(n);
                Check.due("read " + n, x.read(), 2);
                Check.due("object " + n + " of " + length, Check.objectOf(x, n), text);
                Check.due("differ of " + length, x.differ(0, 1), 1);
                Check.bring(x, n, text);
                x.append();
                Check.due("anew, alike, of " + length, x.differ(0, 2), 1);
                x.poke(x.size(1) - 1 + ("o " + n + " " + length + "\n").length() + length, (byte) 'y');
                Check.due("its last byte poked, of " + length, x.differ(0, 2), length == 0 ? 1 : 2);
            }
        }
    }

    private static void promise9Poke() {
        RevisionWrite x = new RevisionWrite();
        Check.noPlace("poke into an empty file", () -> x.poke(0, (byte) 1));
        x.object(1, 1);
        int size = x.write(0);
        for (int i : new int[] {-1, size, size + 1, 12000, Integer.MIN_VALUE, Integer.MAX_VALUE}) {
            Check.noPlace("poke " + i, () -> x.poke(i, (byte) 1));
        }
        told("refused", x, size, 1, 1, 0, 0);
        Check.due("the same byte", x.poke(0, (byte) '%'), '%');
        told("altered by the same", x, size, 1, 1, 0, 1);
        x.read();
        Check.due("the last byte", x.poke(size - 1, (byte) -3), 10);
        Check.due("what it is", x.at(size - 1), -3);
        Check.due("the one before", x.at(size - 2) >= '0', true);
        told("altered", x, size, 1, 1, 0, 1);
        Check.due("no object is altered", x.byteOf(1, 0), 0);
        x.write(0);
        told("written anew", x, size, 1, 1, 0, 0);
        // "%F1\n" "o 1 1\n", then the byte.
        x.poke(10, (byte) 'q');
        Check.due("read with another byte", x.read(), 1);
        Check.due("the byte of the object", x.byteOf(1, 0), 'q');
    }

    private static void promise10Take() {
        RevisionWrite x = new RevisionWrite();
        Check.noPlace("take of none", () -> x.take(0));
        Check.bring(x, 1, "a");
        x.write(0);
        String first = Check.fileOf(x);
        Check.bring(x, 2, "b");
        x.append();
        String second = Check.fileOf(x);
        x.drop(1);
        x.append();
        int size = x.told(0);
        for (int r : new int[] {-1, 3, 60, Integer.MIN_VALUE, Integer.MAX_VALUE}) {
            Check.noPlace("take " + r, () -> x.take(r));
        }
        x.object(3, 1);
        Check.due("take the last one", x.take(2), 3);
        told("take the last one", x, size, 3, 1, 0, 0);
        Check.due("take the middle one", x.take(1), 2);
        Check.due("the middle one", Check.fileOf(x), second);
        told("take the middle one", x, second.length(), 2, 2, 0, 0);
        Check.noPlace("what is behind is gone", () -> x.take(2));
        Check.due("objects of then", Check.objectOf(x, 1) + Check.objectOf(x, 2), "ab");
        x.poke(second.length() - 1, (byte) 0);
        Check.due("altered behind it", x.take(0), 1);
        Check.due("the first one", Check.fileOf(x), first);
        told("take the first one", x, first.length(), 1, 1, 0, 0);
        Check.bring(x, 2, "b");
        x.append();
        Check.due("behind it again", Check.fileOf(x), second);
    }

    private static void promise10TakeWithFault() {
        RevisionWrite x = new RevisionWrite();
        Check.bring(x, 1, "a");
        int first = x.write(0);
        Check.bring(x, 2, "b");
        x.append();
        Check.bring(x, 1, "c");
        x.append();
        int third = x.size(2);
        int place = x.place(2, 1);
        x.octet(2, 0, (byte) 'z');
        x.poke(4, (byte) 'O');
        Check.due("a fault", x.take(0), -5);
        told("a fault", x, first, 3, 2, 1, 1);
        Check.due("what was known stays: size", x.size(2), third);
        Check.due("what was known stays: place", x.place(2, 1), place);
        Check.due("objects stay", Check.objectOf(x, 1) + Check.objectOf(x, 2), "cz");
        Check.noPlace("it is short all the same", () -> x.at(first));
        Check.refused("it is altered", IllegalStateException.class, x::append);
        Check.due("a size beyond the file", x.take(2), -5);
        told("a size beyond the file", x, first, 3, 2, 1, 1);
        x.poke(4, (byte) 'o');
        Check.due("mended, a size beyond the file", x.take(2), 1);
        told("mended", x, first, 1, 1, 0, 0);
        Check.due("mended: the object", Check.objectOf(x, 1), "a");
        Check.noPlace("mended: revisions as read", () -> x.size(1));
    }

    private static void promise11At() {
        RevisionWrite x = new RevisionWrite();
        Check.bring(x, 1, "\u0080\u007f");
        int size = x.write(0);
        Check.due("at(0)", x.at(0), '%');
        Check.due("a byte above 127", x.at(10), -128);
        Check.due("a byte 127", x.at(11), 127);
        Check.due("the last one", x.at(size - 1), 10);
        for (int i : new int[] {-1, size, 11999, 12000, Integer.MIN_VALUE, Integer.MAX_VALUE}) {
            Check.noPlace("at " + i, () -> x.at(i));
        }
        x.drop(1);
        Check.due("the file stays", x.at(10), -128);
    }

    private static void promise12Length() {
        RevisionWrite x = new RevisionWrite();
        for (int n : NO_OBJECTS) {
            Check.noPlace("length " + n, () -> x.length(n));
        }
        x.object(40, 120);
        x.object(1, 0);
        Check.due("of 40", x.length(40), 120);
        Check.due("of an empty one", x.length(1), 0);
        Check.due("of none", x.length(2), -1);
    }

    private static void promise13ByteOf() {
        RevisionWrite x = new RevisionWrite();
        Check.bring(x, 40, "\u00ff\u0001");
        Check.due("byte 0", x.byteOf(40, 0), -1);
        Check.due("byte 1", x.byteOf(40, 1), 1);
        for (int i : new int[] {-1, 2, 120, Integer.MIN_VALUE, Integer.MAX_VALUE}) {
            Check.noPlace("byteOf " + i, () -> x.byteOf(40, i));
        }
        for (int n : NO_OBJECTS) {
            Check.noPlace("byteOf object " + n, () -> x.byteOf(n, 0));
        }
        Check.noPlace("byteOf one not there", () -> x.byteOf(1, 0));
        x.drop(40);
        Check.noPlace("byteOf one that went", () -> x.byteOf(40, 0));
    }

    private static void promise14Size() {
        RevisionWrite x = new RevisionWrite();
        Check.noPlace("size of none", () -> x.size(0));
        int first = x.write(0);
        x.object(1, 1);
        int more = x.append();
        for (int r : new int[] {-1, 2, 60, Integer.MIN_VALUE, Integer.MAX_VALUE}) {
            Check.noPlace("size " + r, () -> x.size(r));
        }
        Check.due("size(0)", x.size(0), first);
        Check.due("size(1)", x.size(1), first + more);
        x.read();
        Check.due("read: size(0)", x.size(0), first);
        Check.due("read: size(1)", x.size(1), first + more);
        x.poke(0, (byte) 0);
        Check.due("poked: size(1)", x.size(1), first + more);
        x.write(0);
        Check.due("whole: size(0)", x.size(0), x.told(0));
        Check.noPlace("whole: size(1)", () -> x.size(1));
    }

    private static void promise15Place() {
        RevisionWrite x = new RevisionWrite();
        Check.noPlace("place in none", () -> x.place(0, 1));
        Check.bring(x, 1, "a");
        Check.bring(x, 40, "b");
        int first = x.write(0);
        x.drop(1);
        x.octet(40, 0, (byte) 'c');
        x.append();
        for (int round = 0; round < 2; round++) {
            Check.due("(0, 1)", x.place(0, 1), 4);
            Check.due("(0, 40)", x.place(0, 40), 12);
            Check.due("(0, 2)", x.place(0, 2), -1);
            Check.due("(1, 1)", x.place(1, 1), -1);
            Check.due("(1, 40)", x.place(1, 40), first);
            x.read();
        }
        for (int r : new int[] {-1, 2, 60, Integer.MIN_VALUE, Integer.MAX_VALUE}) {
            Check.noPlace("place " + r, () -> x.place(r, 1));
        }
        for (int n : NO_OBJECTS) {
            Check.noPlace("place of object " + n, () -> x.place(0, n));
        }
        x.drop(40);
        Check.due("by the latest writing", x.place(1, 40), first);
        x.object(2, 0);
        x.append();
        Check.due("a third revision keeps none that went", x.place(2, 40), -1);
        Check.due("and has the new one", x.place(2, 2), x.size(1));
    }

    private static void promise16Differ() {
        RevisionWrite x = new RevisionWrite();
        Check.noPlace("differ of none", () -> x.differ(0, 0));
        Check.bring(x, 1, "same");
        Check.bring(x, 2, "other");
        Check.bring(x, 3, "went");
        Check.bring(x, 5, "long");
        Check.bring(x, 40, "");
        x.write(1);
        Check.bring(x, 1, "same");
        Check.bring(x, 2, "othes");
        x.drop(3);
        Check.bring(x, 4, "came");
        Check.bring(x, 5, "longer");
        Check.bring(x, 40, "");
        x.append();
        Check.due("differ(0, 0)", x.differ(0, 0), 0);
        Check.due("differ(0, 1)", x.differ(0, 1), 4);
        Check.due("rows", rows(x), "2:3 3:2 4:1 5:3 ");
        Check.due("differ(1, 0)", x.differ(1, 0), 4);
        Check.due("rows back", rows(x), "2:3 3:1 4:2 5:3 ");
        for (int r : new int[] {-1, 2, 60, Integer.MIN_VALUE, Integer.MAX_VALUE}) {
            Check.noPlace("differ " + r, () -> x.differ(r, 0));
            Check.noPlace("differ to " + r, () -> x.differ(0, r));
        }
        Check.due("a refusal keeps the rows", rows(x), "2:3 3:1 4:2 5:3 ");
        x.read();
        Check.due("read: differ(0, 1)", x.differ(0, 1), 4);
        Check.due("read: rows", rows(x), "2:3 3:2 4:1 5:3 ");
        x.drop(5);
        Check.due("objects as they are now don't matter", x.differ(0, 1), 4);
    }

    private static void promise16AsItIsNow() {
        RevisionWrite x = new RevisionWrite();
        Check.bring(x, 10, "ab");
        x.write(0);
        Check.bring(x, 10, "ab");
        x.append();
        Check.due("alike", x.differ(0, 1), 0);
        int byteAt = x.place(1, 10) + "o 10 2\n".length();
        x.poke(byteAt + 1, (byte) 'c');
        Check.due("its last byte poked", x.differ(0, 1), 1);
        x.poke(4 + "o 10 2\n".length() + 1, (byte) 'c');
        Check.due("the other one's too", x.differ(0, 1), 0);
        x.poke(byteAt + 2, (byte) 'c');
        Check.due("the byte behind them", x.differ(0, 1), 0);
        x.poke(0, (byte) 0);
        x.take(0);
        Check.due("bytes that are not in the file are no bytes alike", x.differ(0, 1), 1);
        Check.due("the same place", x.differ(1, 1), 0);
    }

    private static String rows(RevisionWrite x) {
        StringBuilder text = new StringBuilder();
        int count = Check.rowsOf(x);
        for (int i = 0; i < count; i++) {
            text.append(x.row(i, 0)).append(':').append(x.row(i, 1)).append(' ');
        }
        return text.toString();
    }

    private static void promise17Row() {
        RevisionWrite x = new RevisionWrite();
        Check.noPlace("row before any", () -> x.row(0, 0));
        x.write(0);
        for (int n = 1; n <= 40; n++) {
            x.object(n, 0);
        }
        x.append();
        Check.noPlace("row before any differ", () -> x.row(0, 0));
        Check.due("all", x.differ(0, 1), 40);
        Check.due("the first number", x.row(0, 0), 1);
        Check.due("the last number", x.row(39, 0), 40);
        Check.due("the last kind", x.row(39, 1), 1);
        for (int i : new int[] {-1, 40, Integer.MIN_VALUE, Integer.MAX_VALUE}) {
            Check.noPlace("row " + i, () -> x.row(i, 0));
        }
        for (int what : new int[] {-1, 2, Integer.MIN_VALUE, Integer.MAX_VALUE}) {
            Check.noPlace("row what " + what, () -> x.row(0, what));
        }
        x.write(0);
        Check.due("of the latest differ", x.row(39, 0), 40);
        x.differ(0, 0);
        Check.noPlace("none differ", () -> x.row(0, 0));
    }

    private static void promise18Told() {
        RevisionWrite x = new RevisionWrite();
        for (int what : new int[] {-1, 5, Integer.MIN_VALUE, Integer.MAX_VALUE}) {
            Check.due("told " + what, x.told(what), -1);
        }
        x.object(1, 0);
        x.object(2, 0);
        told("before writing", x, 0, 0, 2, 2, 0);
        x.write(0);
        told("written", x, 40, 1, 2, 0, 0);
        x.drop(1);
        told("one went", x, 40, 1, 1, 1, 0);
        x.append();
        told("behind", x, x.size(1), 2, 1, 0, 0);
        x.poke(0, (byte) 0);
        told("poked", x, x.size(1), 2, 1, 0, 1);
        x.poke(0, (byte) '%');
        told("poked back", x, x.size(1), 2, 1, 0, 1);
        x.take(0);
        told("taken", x, 40, 1, 2, 0, 0);
    }
}
