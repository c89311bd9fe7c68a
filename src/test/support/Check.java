import java.nio.charset.StandardCharsets;

/** What the project's tests share: comparing answers, and making files with bytes of the test's own. */
final class Check {
    interface Call {
        void run();
    }

    private static int compared = 0;
    private static int wrong = 0;

    private Check() {
    }

    static void due(String what, long got, long want) {
        compared++;
        if (got != want) {
            wrong++;
            System.out.println(what + " answered " + got + ", due is " + want);
        }
    }

    static void due(String what, boolean got, boolean want) {
        due(what, got ? 1 : 0, want ? 1 : 0);
    }

    static void due(String what, String got, String want) {
        compared++;
        if (!got.equals(want)) {
            wrong++;
            System.out.println(what + " answered " + shown(got) + ", due is " + shown(want));
        }
    }

    static void refused(String what, Class<? extends RuntimeException> want, Call call) {
        compared++;
        Class<?> got = null;
        try {
            call.run();
        } catch (RuntimeException e) {
            got = e.getClass();
        }
        if (got != want) {
            wrong++;
            System.out.println(what + " threw " + got + ", due is " + want);
        }
    }

    static void noPlace(String what, Call call) {
        refused(what, IndexOutOfBoundsException.class, call);
    }

    static void end() {
        System.out.println(compared + " answers compared, " + wrong + " wrong");
        if (wrong != 0 || compared == 0) {
            System.exit(1);
        }
    }

    static String shown(String text) {
        return '"' + text.replace("\n", "\\n") + '"';
    }

    static byte[] bytes(String text) {
        return text.getBytes(StandardCharsets.ISO_8859_1);
    }

    /** The whole file, byte by byte. */
    static String fileOf(RevisionWrite x) {
        StringBuilder text = new StringBuilder();
        for (int i = 0; i < x.told(0); i++) {
            text.append((char) (x.at(i) & 255));
        }
        return text.toString();
    }

    static String objectOf(RevisionWrite x, int n) {
        if (x.length(n) == RevisionWrite.NONE) {
            return "none";
        }
        StringBuilder text = new StringBuilder();
        for (int i = 0; i < x.length(n); i++) {
            text.append((char) (x.byteOf(n, i) & 255));
        }
        return text.toString();
    }

    /** Brings an object with these bytes. */
    static void bring(RevisionWrite x, int n, String text) {
        byte[] all = bytes(text);
        x.object(n, all.length);
        for (int i = 0; i < all.length; i++) {
            if (all[i] != 0) {
                x.octet(n, i, all[i]);
            }
        }
    }

    /** An object of the class whose file has been poked to be this text: a file of its size, of zeros, comes first. */
    static RevisionWrite holding(String text) {
        byte[] all = bytes(text);
        RevisionWrite x = ofSize(all.length);
        for (int i = 0; i < all.length; i++) {
            if (x.at(i) != all[i]) {
                x.poke(i, all[i]);
            }
        }
        return x;
    }

    static void pokeAll(RevisionWrite x, int from, String text) {
        byte[] all = bytes(text);
        for (int i = 0; i < all.length; i++) {
            x.poke(from + i, all[i]);
        }
    }

    private static RevisionWrite ofSize(int size) {
        for (int others = 0; others < 8; others++) {
            for (int a = 0; a <= 120; a++) {
                for (int b = 0; b <= 120; b += 40) {
                    RevisionWrite x = new RevisionWrite();
                    for (int k = 0; k < others; k++) {
                        x.object(3 + k, b);
                    }
                    if (x.write(0) == size) {
                        return x;
                    }
                    x.object(1, a);
                    if (x.write(0) == size) {
                        return x;
                    }
                    x.object(2, b);
                    if (x.write(0) == size) {
                        return x;
                    }
                }
            }
        }
        throw new IllegalArgumentException("no file of " + size + " bytes");
    }
}
