import java.util.ArrayList;
import java.util.LinkedHashMap;
import java.util.List;
import java.util.Map;
import java.util.function.Consumer;
import java.util.function.Supplier;

/** "A call that throws changes nothing", nor does a reading with a FAULT: all the state before and behind each. */
public final class RefusedTest {
    private static final Class<? extends RuntimeException> INDEX = IndexOutOfBoundsException.class;
    private static final Class<? extends RuntimeException> ARGUMENT = IllegalArgumentException.class;
    private static final Class<? extends RuntimeException> STATE = IllegalStateException.class;
    private static final Class<? extends RuntimeException> UNSUPPORTED = UnsupportedOperationException.class;

    /** A call, and what it is due to throw. */
    private record Refused(String name, Class<? extends RuntimeException> due, Consumer<RevisionWrite> call) {
    }

    public static void main(String[] args) {
        for (Map.Entry<String, Supplier<RevisionWrite>> each : makers().entrySet()) {
            String before = State.of(each.getValue());
            for (Refused refused : allRefused(each.getKey(), each.getValue().get())) {
                changesNothing(each.getKey(), each.getValue(), refused, before);
            }
        }
        faultyReadings();
        Check.end();
    }

    private static void changesNothing(String state, Supplier<RevisionWrite> maker, Refused refused, String before) {
        Supplier<RevisionWrite> behind = () -> {
            RevisionWrite x = maker.get();
            Check.refused(state + ": " + refused.name, refused.due, () -> refused.call.accept(x));
            return x;
        };
        Check.due(state + ": all the state is as before " + refused.name, State.of(behind).equals(before), true);
    }

    private static Map<String, Supplier<RevisionWrite>> makers() {
        Map<String, Supplier<RevisionWrite>> all = new LinkedHashMap<>();
        all.put("new", RevisionWrite::new);
        all.put("not yet written", RefusedTest::notYetWritten);
        all.put("written without objects", () -> {
            RevisionWrite x = new RevisionWrite();
            x.write(0);
            return x;
        });
        all.put("all objects", RefusedTest::allObjects);
        all.put("three parts", RefusedTest::threeParts);
        all.put("altered", () -> {
            RevisionWrite x = threeParts();
            x.poke(4, (byte) 'O');
            return x;
        });
        all.put("taken with a fault", () -> {
            RevisionWrite x = threeParts();
            x.poke(4, (byte) 'O');
            x.take(0);
            return x;
        });
        all.put("60 parts", RefusedTest::sixtyParts);
        all.put("12000 bytes", () -> {
            RevisionWrite x = Check.lacking(0);
            x.octet(1, 0, (byte) 1);
            x.drop(9);
            return x;
        });
        return all;
    }

    private static RevisionWrite notYetWritten() {
        RevisionWrite x = new RevisionWrite();
        Check.bring(x, 1, "ab");
        Check.bring(x, 39, "");
        x.first(1, true);
        x.drop(39);
        return x;
    }

    private static RevisionWrite allObjects() {
        RevisionWrite x = new RevisionWrite();
        for (int n = 1; n <= 40; n++) {
            x.object(n, n * 3);
        }
        x.first(40, true);
        x.write(2);
        x.octet(40, 119, (byte) 1);
        return x;
    }

    /** With objects of each kind of change since, FIRST ones, and rows of a comparison. */
    private static RevisionWrite threeParts() {
        RevisionWrite x = new RevisionWrite();
        Check.bring(x, 1, "abc");
        Check.bring(x, 2, "d");
        Check.bring(x, 40, "");
        x.write(1);
        x.drop(2);
        Check.bring(x, 3, "e\n");
        x.append();
        x.octet(1, 2, (byte) 'z');
        x.append();
        x.differ(0, 2);
        x.first(3, true);
        Check.bring(x, 2, "new");
        x.octet(3, 0, (byte) 'E');
        x.drop(40);
        return x;
    }

    private static RevisionWrite sixtyParts() {
        RevisionWrite x = new RevisionWrite();
        x.write(0);
        for (int i = 1; i < 60; i++) {
            x.object(1, i);
            x.append();
        }
        x.differ(0, 59);
        x.object(2, 5);
        x.octet(1, 7, (byte) 7);
        return x;
    }

    private static List<Refused> allRefused(String state, RevisionWrite x) {
        List<Refused> all = new ArrayList<>();
        for (int n : new int[] {0, 41, -1, Integer.MIN_VALUE, Integer.MAX_VALUE}) {
            addWrongObject(all, n);
        }
        int absent = 40;
        int there = 1;
        for (int n = 1; n <= 40; n++) {
            absent = x.length(n) < 0 ? n : absent;
            there = x.length(n) >= 0 ? n : there;
        }
        if (x.length(absent) < 0) {
            addWrongByte(all, absent, 0);
            int n = absent;
            add(all, "first(" + n + ", true)", INDEX, y -> y.first(n, true));
            add(all, "first(" + n + ", false)", INDEX, y -> y.first(n, false));
        }
        if (x.length(there) >= 0) {
            addWrongByte(all, there, -1);
            addWrongByte(all, there, x.length(there));
        }
        for (int length : new int[] {-1, 121, Integer.MIN_VALUE, Integer.MAX_VALUE}) {
            int n = there;
            add(all, "object(" + n + ", " + length + ")", ARGUMENT, y -> y.object(n, length));
        }
        for (int i : new int[] {-1, x.told(0), 12000, Integer.MIN_VALUE, Integer.MAX_VALUE}) {
            add(all, "poke(" + i + ")", INDEX, y -> y.poke(i, (byte) 1));
            add(all, "at(" + i + ")", INDEX, y -> y.at(i));
        }
        for (int how : new int[] {-1, 3, Integer.MIN_VALUE, Integer.MAX_VALUE}) {
            add(all, "write(" + how + ")", ARGUMENT, y -> y.write(how));
        }
        for (int r : new int[] {-1, x.told(1), 60, Integer.MIN_VALUE, Integer.MAX_VALUE}) {
            addWrongRevision(all, r);
        }
        addWrongRows(all, x);
        addAppend(all, state);
        return all;
    }

    private static void add(List<Refused> all, String name, Class<? extends RuntimeException> due, Consumer<RevisionWrite> call) {
        all.add(new Refused(name, due, call));
    }

    private static void addWrongObject(List<Refused> all, int n) {
        add(all, "object(" + n + ", 1)", INDEX, y -> y.object(n, 1));
        add(all, "object(" + n + ", 121)", INDEX, y -> y.object(n, 121));
        add(all, "object(" + n + ", -1)", INDEX, y -> y.object(n, -1));
        add(all, "drop(" + n + ")", INDEX, y -> y.drop(n));
        add(all, "first(" + n + ", true)", INDEX, y -> y.first(n, true));
        add(all, "length(" + n + ")", INDEX, y -> y.length(n));
        add(all, "place(0, " + n + ")", INDEX, y -> y.place(0, n));
        addWrongByte(all, n, 0);
    }

    private static void addWrongByte(List<Refused> all, int n, int i) {
        add(all, "octet(" + n + ", " + i + ")", INDEX, y -> y.octet(n, i, (byte) 1));
        add(all, "byteOf(" + n + ", " + i + ")", INDEX, y -> y.byteOf(n, i));
    }

    private static void addWrongRevision(List<Refused> all, int r) {
        add(all, "take(" + r + ")", INDEX, y -> y.take(r));
        add(all, "size(" + r + ")", INDEX, y -> y.size(r));
        add(all, "place(" + r + ", 1)", INDEX, y -> y.place(r, 1));
        add(all, "place(" + r + ", 0)", INDEX, y -> y.place(r, 0));
        add(all, "differ(" + r + ", 0)", INDEX, y -> y.differ(r, 0));
        add(all, "differ(0, " + r + ")", INDEX, y -> y.differ(0, r));
    }

    private static void addWrongRows(List<Refused> all, RevisionWrite x) {
        for (int what : new int[] {-1, 2, Integer.MIN_VALUE, Integer.MAX_VALUE}) {
            add(all, "row(0, " + what + ")", INDEX, y -> y.row(0, what));
        }
        for (int i : new int[] {-1, Check.rowsOf(x), 40, Integer.MIN_VALUE, Integer.MAX_VALUE}) {
            add(all, "row(" + i + ", 0)", INDEX, y -> y.row(i, 0));
            add(all, "row(" + i + ", 1)", INDEX, y -> y.row(i, 1));
        }
    }

    private static void addAppend(List<Refused> all, String state) {
        switch (state) {
            case "new", "not yet written", "altered", "taken with a fault" -> add(all, "append()", STATE, y -> y.append());
            case "60 parts", "12000 bytes" -> add(all, "append()", UNSUPPORTED, y -> y.append());
            default -> {
            }
        }
    }

    private static void faultyReadings() {
        faultyReading("empty", RefusedTest::notYetWritten, -1);
        // In each of these lines one byte is wrong: the first line, a record, the x, a row, the p, the e, the last byte.
        String file = Check.fileOf(threeParts());
        int x = file.lastIndexOf("\nx ") + 1;
        int[] places = {0, file.indexOf("o 1 3"), x, file.indexOf("\n", x) + 1, file.lastIndexOf("p "), file.lastIndexOf("e ")};
        for (int place : places) {
            faultyReading("a wrong byte at " + place, () -> poked(place), -1 - place);
        }
        faultyReading("a wrong last byte", () -> poked(file.length() - 1), -1 - file.length());
    }

    private static RevisionWrite poked(int place) {
        RevisionWrite x = threeParts();
        x.poke(place, (byte) '?');
        return x;
    }

    private static void faultyReading(String state, Supplier<RevisionWrite> maker, int due) {
        Supplier<RevisionWrite> behind = () -> {
            RevisionWrite x = maker.get();
            Check.due(state + ": read", x.read(), due);
            return x;
        };
        Check.due(state + ": all the state is as before read()", State.of(behind).equals(State.of(maker)), true);
    }
}
