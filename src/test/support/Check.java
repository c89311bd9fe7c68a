import java.nio.charset.StandardCharsets;
import java.util.Map;
import java.util.TreeMap;
import java.util.function.Supplier;

/** What the project's tests share: comparing answers, and making files with bytes of the test's own. */
final class Check {
    interface Call {
        void run();
    }

    /** By a file's size, how long its objects are (-1: not there). */
    private static final Map<Integer, int[]> LENGTHS = new TreeMap<>();

    private static int compared = 0;
    private static int wrong = 0;

    private Check() {
    }

    static void due(String what, long got, long want) {
        compared++;
        if (got != want) {
            wrong++;
            System.out.println(what + " answered " + got + ", due is " + want);
        }
    }

    static void due(String what, boolean got, boolean want) {
        due(what, got ? 1 : 0, want ? 1 : 0);
    }

    static void due(String what, String got, String want) {
        compared++;
        if (!got.equals(want)) {
            wrong++;
            System.out.println(what + " answered " + shown(got) + ", due is " + shown(want));
        }
    }

    static void refused(String what, Class<? extends RuntimeException> want, Call call) {
        compared++;
        Class<?> got = null;
        try {
            call.run();
        } catch (RuntimeException e) {
            got = e.getClass();
        }
        if (got != want) {
            wrong++;
            System.out.println(what + " threw " + got + ", due is " + want);
        }
    }

    static void noPlace(String what, Call call) {
        refused(what, IndexOutOfBoundsException.class, call);
    }

    static void end() {
        System.out.println(compared + " answers compared, " + wrong + " wrong");
        if (wrong != 0 || compared == 0) {
            System.exit(1);
        }
    }

    static String shown(String text) {
        return '"' + text.replace("\n", "\\n") + '"';
    }

    static byte[] bytes(String text) {
        return text.getBytes(StandardCharsets.ISO_8859_1);
    }

    /** The whole file, byte by byte. */
    static String fileOf(RevisionWrite x) {
        StringBuilder text = new StringBuilder();
        int size = x.told(0);
        for (int i = 0; i < size; i++) {
            text.append((char) (x.at(i) & 255));
        }
        return text.toString();
    }

    /** The whole file of what the maker makes, each time anew: an object answers for 512 calls, a file may be longer. */
    static String fileOf(Supplier<RevisionWrite> maker) {
        StringBuilder text = new StringBuilder();
        RevisionWrite x = maker.get();
        int size = x.told(0);
        for (int i = 0; i < size; i++) {
            if (i % 250 == 0) {
                x = maker.get();
            }
            text.append((char) (x.at(i) & 255));
        }
        return text.toString();
    }

    static String objectOf(RevisionWrite x, int n) {
        int length = x.length(n);
        if (length == RevisionWrite.NONE) {
            return "none";
        }
        StringBuilder text = new StringBuilder();
        for (int i = 0; i < length; i++) {
            text.append((char) (x.byteOf(n, i) & 255));
        }
        return text.toString();
    }

    /** The objects of the last revision in the order of their records. */
    static String recordsOf(RevisionWrite x) {
        TreeMap<Integer, Integer> byPlace = new TreeMap<>();
        int last = x.told(1) - 1;
        for (int n = 1; n <= 40; n++) {
            int place = x.place(last, n);
            if (place != RevisionWrite.NONE) {
                byPlace.put(place, n);
            }
        }
        StringBuilder text = new StringBuilder();
        for (int n : byPlace.values()) {
            text.append(n).append(' ');
        }
        return text.toString();
    }

    /** How many rows the latest differ() has left. */
    static int rowsOf(RevisionWrite x) {
        int rows = 0;
        while (rows < 41) {
            try {
                x.row(rows, 0);
            } catch (IndexOutOfBoundsException e) {
                break;
            }
            rows++;
        }
        return rows;
    }

    /** Brings an object with these bytes. */
    static void bring(RevisionWrite x, int n, String text) {
        byte[] all = bytes(text);
        x.object(n, all.length);
        for (int i = 0; i < all.length; i++) {
            if (all[i] != 0) {
                x.octet(n, i, all[i]);
            }
        }
    }

    /** An object of the class whose file has been poked to be this text. */
    static RevisionWrite holding(String text) {
        RevisionWrite x = written(text.length());
        if (x == null) {
            x = takenOut(text.length());
        }
        pokeAll(x, 0, text);
        return x;
    }

    static void pokeAll(RevisionWrite x, int from, String text) {
        byte[] all = bytes(text);
        for (int i = 0; i < all.length; i++) {
            x.poke(from + i, all[i]);
        }
    }

    /** An object whose file was written with so many bytes, or null where no file has just these. */
    private static RevisionWrite written(int size) {
        if (LENGTHS.isEmpty()) {
            for (int a = -1; a <= 120; a++) {
                for (int b = -1; b <= 120; b += 11) {
                    LENGTHS.putIfAbsent(writtenWith(a, b, -1).told(0), new int[] {a, b, -1});
                    LENGTHS.putIfAbsent(writtenWith(a, b, 120).told(0), new int[] {a, b, 120});
                }
            }
        }
        return LENGTHS.containsKey(size) ? writtenWith(LENGTHS.get(size)) : null;
    }

    private static RevisionWrite writtenWith(int... lengths) {
        RevisionWrite x = new RevisionWrite();
        for (int i = 0; i < lengths.length; i++) {
            if (lengths[i] >= 0) {
                x.object(i + 1, lengths[i]);
            }
        }
        x.write(0);
        return x;
    }

    /** A file so small is no writing's: it is taken out of a poked one as its first revision. */
    private static RevisionWrite takenOut(int size) {
        for (int rows = 0; rows < 2; rows++) {
            for (int filled = 0; filled < size; filled++) {
                int place = 4 + filled;
                String first = "%F1\n" + ".".repeat(filled) + (rows == 0 ? "x 0\n" : "x 1\n7 -\n") + "p 0\ne " + place + "\n";
                if (first.length() == size) {
                    String filler = first + ".".repeat(100 - size);
                    RevisionWrite x = holding(filler + "x 0\np " + place + "\ne 100\n");
                    due("two parts of a test's own", x.read(), 2);
                    due("the first of them taken out", x.take(0), 1);
                    due("its bytes", x.told(0), size);
                    return x;
                }
            }
        }
        throw new IllegalArgumentException("no file of " + size + " bytes");
    }

    /** An object whose file lacks so many bytes (0 .. 200) of 12000; none is changed, all objects are there. */
    static RevisionWrite lacking(int left) {
        RevisionWrite x = new RevisionWrite();
        for (int n = 1; n <= 40; n++) {
            x.object(n, 120);
        }
        x.write(0);
        for (int n = 1; n <= 40; n++) {
            x.object(n, 120);
        }
        x.append();
        for (int k = 0; k < 20 && x.told(0) < 12000 - left; k++) {
            int most = 12000 - left - x.told(0);
            // What then remains is again as much as a part may have.
            x.object(1, lengthInPart(most > 130 ? Math.min(120, most - 50) : most));
            x.append();
        }
        due("a file that lacks " + left, x.told(0), 12000 - left);
        return x;
    }

    /** How many bytes object 1 has when it alone is written behind, all places of five digits, in so many bytes. */
    static int lengthInPart(int bytes) {
        for (int length = 0; length <= 120; length++) {
            String rest = "o 1 " + length + "\n\nx 1\n1 10000\np 10000\ne 10000\n";
            if (rest.length() + length == bytes) {
                return length;
            }
        }
        throw new IllegalArgumentException("no part of " + bytes + " bytes");
    }
}
