import java.util.List;
import java.util.Random;
import java.util.function.IntSupplier;

/** Runs of calls by chance, of at most 512 each and the same every time, each answer against the Model's. */
public final class RandomTest {
    private static final int RUNS = 6000;
    private static final int CALLS = 512;
    private static final String LETTERS = "0123456789oxpe -%F1\n";

    // Above every answer; an exception that no call may throw is one below.
    private static final int REFUSED = 1_000_000;
    private static final List<Class<?>> DUE = List.of(IndexOutOfBoundsException.class, IllegalArgumentException.class,
        IllegalStateException.class, UnsupportedOperationException.class);

    private final Random chance;
    private final RevisionWrite x = new RevisionWrite();
    private final Model model = new Model();
    private final StringBuilder story = new StringBuilder();
    private final int numbers;
    private final int longest;
    private int calls = 0;
    private boolean broken = false;

    private RandomTest(long seed) {
        chance = new Random(seed);
        numbers = new int[] {2, 5, 12, 40}[chance.nextInt(4)];
        longest = new int[] {0, 3, 12, 120}[chance.nextInt(4)];
    }

    public static void main(String[] args) {
        for (int run = 0; run < RUNS; run++) {
            RandomTest test = new RandomTest(run);
            int kind = run % 4;
            while (test.calls < CALLS && !test.broken) {
                test.step(kind);
            }
            if (test.broken) {
                System.out.println("run " + run + ": " + test.story);
                break;
            }
        }
        Check.end();
    }

    private static int answer(IntSupplier call) {
        try {
            return call.getAsInt();
        } catch (RuntimeException e) {
            return REFUSED + DUE.indexOf(e.getClass());
        }
    }

    private void same(String call, IntSupplier mine, IntSupplier due) {
        if (broken || calls >= CALLS) {
            return;
        }
        calls++;
        int got = answer(mine);
        int want = answer(due);
        story.append(call).append(" -> ").append(want).append("; ");
        broken = got != want;
        Check.due(call, got, want);
    }

    private int number() {
        return chance.nextInt(40) == 0 ? chance.nextInt(60) - 10 : 1 + chance.nextInt(numbers);
    }

    private int revision() {
        return chance.nextInt(Math.max(1, model.told(1)) + (chance.nextInt(10) == 0 ? 2 : 0)) - (chance.nextInt(30) == 0 ? 1 : 0);
    }

    private void step(int kind) {
        int what = chance.nextInt(100);
        if (what < 14) {
            bring();
        } else if (what < 24) {
            octet();
        } else if (what < 30) {
            int n = number();
            same("drop(" + n + ")", () -> x.drop(n) ? 1 : 0, () -> model.drop(n));
        } else if (what < 33) {
            int n = number();
            boolean on = chance.nextInt(3) > 0;
            same("first(" + n + ", " + on + ")", () -> x.first(n, on) ? 1 : 0, () -> model.first(n, on));
        } else if (what < 35 + (kind == 0 ? 5 : 0)) {
            int how = chance.nextInt(20) == 0 ? chance.nextInt(9) - 3 : chance.nextInt(3);
            same("write(" + how + ")", () -> x.write(how), () -> model.write(how));
        } else if (what < 52) {
            same("append()", x::append, model::append);
        } else if (what < 56) {
            same("read()", x::read, model::read);
        } else if (what < (kind == 3 ? 57 : 66)) {
            pokes();
        } else if (what < 68) {
            int r = kind == 3 ? model.told(1) - 1 : revision();
            same("take(" + r + ")", () -> x.take(r), () -> model.take(r));
        } else {
            look();
        }
    }

    private void bring() {
        int n = number();
        int length = chance.nextInt(50) == 0 ? chance.nextInt(300) - 90 : chance.nextInt(longest + 1);
        same("object(" + n + ", " + length + ")", () -> {
            x.object(n, length);
            return 0;
        }, () -> {
            model.object(n, length);
            return 0;
        });
    }

    private void octet() {
        int n = number();
        int i = chance.nextInt(longest + 2) - chance.nextInt(20) / 19;
        byte b = (byte) (chance.nextBoolean() ? LETTERS.charAt(chance.nextInt(LETTERS.length())) : chance.nextInt(3));
        same("octet(" + n + ", " + i + ", " + b + ")", () -> x.octet(n, i, b), () -> model.octet(n, i, b));
    }

    /** One byte becomes another that may well stand there, is read, and most often becomes what it was. */
    private void pokes() {
        int size = model.told(0);
        int i = chance.nextInt(20) == 0 ? chance.nextInt(size + 5) - 3 : chance.nextInt(Math.max(1, size));
        byte b = (byte) LETTERS.charAt(chance.nextInt(LETTERS.length()));
        int was = i >= 0 && i < size ? model.at(i) : 0;
        poke(i, b);
        if (chance.nextInt(3) == 0) {
            look();
        }
        same("read()", x::read, model::read);
        if (chance.nextInt(6) == 0) {
            int r = revision();
            same("take(" + r + ")", () -> x.take(r), () -> model.take(r));
            look();
        }
        if (chance.nextInt(20) > 0) {
            poke(i, (byte) was);
            if (chance.nextInt(5) > 0) {
                same("read()", x::read, model::read);
            }
        }
    }

    private void poke(int i, byte b) {
        same("poke(" + i + ", " + b + ")", () -> x.poke(i, b), () -> model.poke(i, b));
    }

    private void look() {
        int what = chance.nextInt(8);
        int r = revision();
        int n = number();
        if (what == 0) {
            int i = chance.nextInt(model.told(0) + 3) - 1;
            same("at(" + i + ")", () -> x.at(i), () -> model.at(i));
        } else if (what == 1) {
            same("length(" + n + ")", () -> x.length(n), () -> model.length(n));
        } else if (what == 2) {
            int i = chance.nextInt(longest + 2) - chance.nextInt(20) / 19;
            same("byteOf(" + n + ", " + i + ")", () -> x.byteOf(n, i), () -> model.byteOf(n, i));
        } else if (what == 3) {
            same("size(" + r + ")", () -> x.size(r), () -> model.size(r));
        } else if (what == 4) {
            same("place(" + r + ", " + n + ")", () -> x.place(r, n), () -> model.place(r, n));
        } else if (what == 5) {
            int s = revision();
            same("differ(" + r + ", " + s + ")", () -> x.differ(r, s), () -> model.differ(r, s));
        } else if (what == 6) {
            int i = chance.nextInt(6) - chance.nextInt(20) / 19;
            int kind = chance.nextInt(20) == 0 ? chance.nextInt(9) - 4 : chance.nextInt(2);
            same("row(" + i + ", " + kind + ")", () -> x.row(i, kind), () -> model.row(i, kind));
        } else {
            int kind = chance.nextInt(20) == 0 ? chance.nextInt(20) - 8 : chance.nextInt(5);
            same("told(" + kind + ")", () -> x.told(kind), () -> model.told(kind));
        }
    }
}
