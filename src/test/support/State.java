import java.util.ArrayList;
import java.util.List;
import java.util.function.Supplier;

/** All that the face tells of an object, and what its next call would do: equal texts are equal states. */
final class State {
    interface Look {
        Object at(RevisionWrite x);
    }

    // An object answers for 512 calls; its maker may have used half of them.
    private static final int LOOKS = 250;

    private State() {
    }

    /** The maker makes the same object each time; none is looked at for so long that its answers are free. */
    static String of(Supplier<RevisionWrite> maker) {
        StringBuilder text = new StringBuilder();
        List<Look> quiet = quietLooks(maker.get());
        RevisionWrite x = null;
        for (int i = 0; i < quiet.size(); i++) {
            if (i % LOOKS == 0) {
                x = maker.get();
            }
            text.append(answer(quiet.get(i), x)).append(' ');
        }
        text.append('\n');
        addFirstOnes(text, maker.get());
        for (Look next : nextCalls()) {
            RevisionWrite y = maker.get();
            text.append(answer(next, y)).append(':');
            for (int what = 0; what < 5; what++) {
                text.append(y.told(what)).append(' ');
            }
        }
        return text.toString();
    }

    private static String answer(Look look, RevisionWrite x) {
        try {
            return String.valueOf(look.at(x));
        } catch (RuntimeException e) {
            return e.getClass().getSimpleName();
        }
    }

    private static List<Look> quietLooks(RevisionWrite x) {
        List<Look> all = new ArrayList<>();
        for (int what = -1; what <= 5; what++) {
            int w = what;
            all.add(y -> y.told(w));
        }
        int size = x.told(0);
        for (int i = 0; i <= size; i++) {
            int place = i;
            all.add(y -> y.at(place));
        }
        for (int n = 1; n <= 40; n++) {
            addObject(all, n, x.length(n));
        }
        int revisions = x.told(1);
        for (int r = 0; r <= revisions; r++) {
            addRevision(all, r);
        }
        for (int i = 0; i <= 40; i++) {
            int row = i;
            all.add(y -> y.row(row, 0));
            all.add(y -> y.row(row, 1));
        }
        return all;
    }

    private static void addObject(List<Look> all, int n, int length) {
        all.add(y -> y.length(n));
        for (int i = 0; i <= length; i++) {
            int place = i;
            all.add(y -> y.byteOf(n, place));
        }
    }

    private static void addRevision(List<Look> all, int r) {
        all.add(y -> y.size(r));
        for (int n = 1; n <= 40; n++) {
            int number = n;
            all.add(y -> y.place(r, number));
        }
    }

    private static void addFirstOnes(StringBuilder text, RevisionWrite x) {
        for (int n = 1; n <= 40; n++) {
            int number = n;
            text.append(answer(y -> y.first(number, false), x)).append(' ');
        }
        text.append('\n');
    }

    private static List<Look> nextCalls() {
        return List.of(y -> y.append(), y -> y.read(), y -> y.take(0), y -> y.take(1), y -> y.differ(0, 1),
            y -> y.write(0), y -> y.write(1), y -> y.write(2));
    }
}
