import java.nio.charset.StandardCharsets;

/** What the project's tests share: comparing answers, and making files with bytes of the test's own. */
final class Check {
    interface Call {
        void run();
    }

    private static int compared = 0;
    private static int wrong = 0;

    private Check() {
    }

    static void due(String what, long got, long want) {
        compared++;
        if (got != want) {
            wrong++;
            System.out.println(what + " answered " + got + ", due is " + want);
        }
    }

    static void due(String what, boolean got, boolean want) {
        due(what, got ? 1 : 0, want ? 1 : 0);
    }

    static void due(String what, String got, String want) {
        compared++;
        if (!got.equals(want)) {
            wrong++;
            System.out.println(what + " answered " + shown(got) + ", due is " + shown(want));
        }
    }

    static void refused(String what, Class<? extends RuntimeException> want, Call call) {
        compared++;
        Class<?> got = null;
        try {
            call.run();
        } catch (RuntimeException e) {
            got = e.getClass();
        }
        if (got != want) {
            wrong++;
            System.out.println(what + " threw " + got + ", due is " + want);
        }
    }

    static void noPlace(String what, Call call) {
        refused(what, IndexOutOfBoundsException.class, call);
    }

    static void end() {
        System.out.println(compared + " answers compared, " + wrong + " wrong");
        if (wrong != 0 || compared == 0) {
            System.exit(1);
        }
    }

    static String shown(String text) {
        return '"' + text.replace("\n", "\\n") + '"';
    }

    static byte[] bytes(String text) {
        return text.getBytes(StandardCharsets.ISO_8859_1);
    }

    /** The whole file, byte by byte. */
    static String fileOf(RevisionWrite x) {
        StringBuilder text = new StringBuilder();
        int size = x.told(0);
        for (int i = 0; i < size; i++) {
            text.append((char) (x.at(i) & 255));
        }
        return text.toString();
    }

    static String objectOf(RevisionWrite x, int n) {
        int length = x.length(n);
        if (length == RevisionWrite.NONE) {
            return "none";
        }
        StringBuilder text = new StringBuilder();
        for (int i = 0; i < length; i++) {
            text.append((char) (x.byteOf(n, i) & 255));
        }
        return text.toString();
    }

    /** Brings an object with these bytes. */
    static void bring(RevisionWrite x, int n, String text) {
        byte[] all = bytes(text);
        x.object(n, all.length);
        for (int i = 0; i < all.length; i++) {
            if (all[i] != 0) {
                x.octet(n, i, all[i]);
            }
        }
    }

    /** An object of the class whose file has been poked to be this text. */
    static RevisionWrite holding(String text) {
        RevisionWrite x = written(text.length());
        if (x == null) {
            x = takenOut(text.length());
        }
        pokeAll(x, 0, text);
        return x;
    }

    static void pokeAll(RevisionWrite x, int from, String text) {
        byte[] all = bytes(text);
        for (int i = 0; i < all.length; i++) {
            x.poke(from + i, all[i]);
        }
    }

    /** An object whose file was written with so many bytes, or null where no file has just these. */
    private static RevisionWrite written(int size) {
        for (int a = -1; a <= 120; a++) {
            for (int b = -1; b <= 120; b += 11) {
                RevisionWrite x = new RevisionWrite();
                if (a >= 0) {
                    x.object(1, a);
                }
                if (b >= 0) {
                    x.object(2, b);
                }
                if (x.write(0) == size) {
                    return x;
                }
            }
        }
        return null;
    }

    /** A file so small is no writing's: it is taken out of a poked one as its first revision. */
    private static RevisionWrite takenOut(int size) {
        for (int rows = 0; rows < 2; rows++) {
            for (int filled = 0; filled < size; filled++) {
                int place = 4 + filled;
                String first = "%F1\n" + ".".repeat(filled) + (rows == 0 ? "x 0\n" : "x 1\n7 -\n") + "p 0\ne " + place + "\n";
                if (first.length() == size) {
                    String filler = first + ".".repeat(100 - size);
                    RevisionWrite x = holding(filler + "x 0\np " + place + "\ne 100\n");
                    due("two parts of a test's own", x.read(), 2);
                    due("the first of them taken out", x.take(0), 1);
                    due("its bytes", x.told(0), size);
                    return x;
                }
            }
        }
        throw new IllegalArgumentException("no file of " + size + " bytes");
    }
}
