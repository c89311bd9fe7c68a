import java.util.ArrayList;
import java.util.Comparator;
import java.util.List;
import java.util.Map;
import java.util.Set;
import java.util.TreeMap;
import java.util.TreeSet;
import java.util.regex.Matcher;
import java.util.regex.Pattern;

/** The document once more, by texts, maps and patterns: what RandomTest compares the class with. */
final class Model {
    private static final String NUMBER = "(0|[1-9][0-9]{0,4})";
    private static final Pattern ROW = Pattern.compile(NUMBER + " (-|0|[1-9][0-9]{0,4})\n");
    private static final Pattern RECORD = Pattern.compile("o " + NUMBER + " " + NUMBER + "\n");

    /** The file was found wrong at a place. */
    private static final class Fault extends RuntimeException {
        private static final long serialVersionUID = 1L;
        final int place;

        Fault(int place) {
            this.place = place;
        }
    }

    /** A record: its place, the place of its object's bytes, how many these are. */
    private record Found(int place, int from, int length) {
    }

    private record Revision(int x, int size, Map<Integer, Found> found) {
    }

    private final Map<Integer, char[]> objects = new TreeMap<>();
    private final Set<Integer> leading = new TreeSet<>();
    private final Set<Integer> came = new TreeSet<>();
    private final Set<Integer> saved = new TreeSet<>();
    private StringBuilder file = new StringBuilder();
    private boolean altered;
    private List<Revision> revisions = new ArrayList<>();
    private List<int[]> differing = new ArrayList<>();

    private static void check(boolean fine) {
        if (!fine) {
            throw new IndexOutOfBoundsException();
        }
    }

    private static void isNumber(int n) {
        check(n >= 1 && n <= 40);
    }

    private void isByte(int n, int i) {
        isNumber(n);
        check(objects.containsKey(n));
        check(i >= 0 && i < objects.get(n).length);
    }

    void object(int n, int length) {
        isNumber(n);
        if (length < 0 || length > 120) {
            throw new IllegalArgumentException();
        }
        objects.put(n, new char[length]);
        leading.remove(n);
        came.add(n);
    }

    int octet(int n, int i, byte b) {
        isByte(n, i);
        byte was = (byte) objects.get(n)[i];
        objects.get(n)[i] = (char) (b & 255);
        if (was != b) {
            came.add(n);
        }
        return was;
    }

    int drop(int n) {
        isNumber(n);
        leading.remove(n);
        came.remove(n);
        return objects.remove(n) != null ? 1 : 0;
    }

    int first(int n, boolean on) {
        isNumber(n);
        check(objects.containsKey(n));
        return (on ? leading.add(n) : leading.remove(n)) ? 1 : 0;
    }

    private Set<Integer> changed() {
        Set<Integer> all = new TreeSet<>(saved);
        all.removeAll(objects.keySet());
        all.addAll(came);
        return all;
    }

    private void allSaved() {
        saved.clear();
        saved.addAll(objects.keySet());
        came.clear();
    }

    int write(int how) {
        Comparator<Integer> order = switch (how) {
            case 0 -> Comparator.naturalOrder();
            case 1 -> Comparator.comparing(n -> objects.get(n).length);
            case 2 -> Comparator.comparing(n -> !leading.contains(n));
            default -> throw new IllegalArgumentException();
        };
        List<Integer> numbers = new ArrayList<>(objects.keySet());
        numbers.sort(order.thenComparing(Comparator.naturalOrder()));
        StringBuilder made = new StringBuilder("%F1\n");
        Revision revision = part(made, numbers, Set.copyOf(numbers), 0, Map.of());
        if (made.length() > 12000) {
            throw new UnsupportedOperationException();
        }
        file = made;
        revisions = new ArrayList<>(List.of(revision));
        altered = false;
        allSaved();
        return file.length();
    }

    int append() {
        if (file.length() == 0 || altered) {
            throw new IllegalStateException();
        }
        if (changed().isEmpty()) {
            return 0;
        }
        List<Integer> numbers = new ArrayList<>(changed());
        numbers.retainAll(objects.keySet());
        Revision latest = revisions.get(revisions.size() - 1);
        StringBuilder made = new StringBuilder(file);
        Revision revision = part(made, numbers, changed(), latest.x, latest.found);
        if (made.length() > 12000 || revisions.size() == 60) {
            throw new UnsupportedOperationException();
        }
        int more = made.length() - file.length();
        file = made;
        revisions.add(revision);
        allSaved();
        return more;
    }

    private Revision part(StringBuilder to, List<Integer> records, Set<Integer> rows, int before, Map<Integer, Found> known) {
        Map<Integer, Found> found = new TreeMap<>(known);
        found.keySet().removeAll(rows);
        for (int n : records) {
            char[] bytes = objects.get(n);
            int place = to.length();
            to.append("o " + n + " " + bytes.length + "\n");
            found.put(n, new Found(place, to.length(), bytes.length));
            to.append(bytes).append('\n');
        }
        int x = to.length();
        to.append("x " + rows.size() + "\n");
        for (int n : new TreeSet<>(rows)) {
            to.append(n + " " + (found.containsKey(n) ? String.valueOf(found.get(n).place) : "-") + "\n");
        }
        to.append("p " + before + "\n").append("e " + x + "\n");
        return new Revision(x, to.length(), found);
    }

    int read() {
        List<Revision> parts = new ArrayList<>();
        try {
            walk(parts);
        } catch (Fault fault) {
            return -1 - fault.place;
        }
        List<Revision> told = new ArrayList<>();
        Map<Integer, Found> found = new TreeMap<>();
        for (int i = parts.size() - 1; i >= 0; i--) {
            found = new TreeMap<>(found);
            found.putAll(parts.get(i).found);
            found.values().removeIf(f -> f.place < 0);
            told.add(new Revision(parts.get(i).x, parts.get(i).size, found));
        }
        revisions = told;
        objects.clear();
        leading.clear();
        for (Map.Entry<Integer, Found> each : found.entrySet()) {
            int from = each.getValue().from;
            objects.put(each.getKey(), file.substring(from, from + each.getValue().length).toCharArray());
        }
        allSaved();
        altered = false;
        return told.size();
    }

    private void walk(List<Revision> parts) {
        if (file.indexOf("%F1\n") != 0) {
            throw new Fault(0);
        }
        if (file.charAt(file.length() - 1) != '\n') {
            throw new Fault(file.length());
        }
        int last = file.lastIndexOf("\n", file.length() - 2) + 1;
        int x = line("e " + NUMBER + "\n", last, last);
        if (x >= last) {
            throw new Fault(last);
        }
        int place = x;
        do {
            place = walkPart(place, parts);
        } while (place != 0);
    }

    private Matcher matcher(Pattern pattern, int place) {
        Matcher m = pattern.matcher(file);
        m.region(place, file.length());
        return m;
    }

    private int behind;

    private int line(String pattern, int place, int fault) {
        Matcher m = matcher(Pattern.compile(pattern), place);
        if (!m.lookingAt()) {
            throw new Fault(fault);
        }
        behind = m.end();
        return Integer.parseInt(m.group(1));
    }

    private int walkPart(int x, List<Revision> parts) {
        int rows = line("x " + NUMBER + "\n", x, x);
        Map<Integer, Found> found = new TreeMap<>();
        int above = 0;
        for (int i = 0; i < rows; i++) {
            Matcher m = matcher(ROW, behind);
            if (!m.lookingAt()) {
                throw new Fault(behind);
            }
            int n = Integer.parseInt(m.group(1));
            int p = m.group(2).equals("-") ? -1 : Integer.parseInt(m.group(2));
            if (n < 1 || n > 40 || n <= above || p >= x) {
                throw new Fault(behind);
            }
            found.put(n, new Found(p, 0, 0));
            above = n;
            behind = m.end();
        }
        int here = behind;
        int q = line("p " + NUMBER + "\n", here, here);
        if (q >= x || q != 0 && parts.size() == 59) {
            throw new Fault(here);
        }
        here = behind;
        if (line("e " + NUMBER + "\n", here, here) != x) {
            throw new Fault(here);
        }
        if (parts.isEmpty() && behind != file.length()) {
            throw new Fault(behind);
        }
        int size = behind;
        for (Map.Entry<Integer, Found> each : found.entrySet()) {
            if (each.getValue().place >= 0) {
                each.setValue(record(each.getKey(), each.getValue().place, x));
            }
        }
        parts.add(new Revision(x, size, found));
        return q;
    }

    private Found record(int n, int place, int x) {
        Matcher m = matcher(RECORD, place);
        if (!m.lookingAt() || Integer.parseInt(m.group(1)) != n) {
            throw new Fault(place);
        }
        int length = Integer.parseInt(m.group(2));
        int close = m.end() + length;
        if (length > 120 || close >= x || file.charAt(close) != '\n') {
            throw new Fault(place);
        }
        return new Found(place, m.end(), length);
    }

    int poke(int i, byte b) {
        int was = at(i);
        file.setCharAt(i, (char) (b & 255));
        altered = true;
        return was;
    }

    int take(int revision) {
        int size = size(revision);
        file.setLength(Math.min(size, file.length()));
        int answer = read();
        altered = answer < 0;
        return answer;
    }

    int at(int i) {
        check(i >= 0 && i < file.length());
        return (byte) file.charAt(i);
    }

    int length(int n) {
        isNumber(n);
        return objects.containsKey(n) ? objects.get(n).length : -1;
    }

    int byteOf(int n, int i) {
        isByte(n, i);
        return (byte) objects.get(n)[i];
    }

    int size(int revision) {
        check(revision >= 0 && revision < revisions.size());
        return revisions.get(revision).size;
    }

    int place(int revision, int n) {
        size(revision);
        isNumber(n);
        Found found = revisions.get(revision).found.get(n);
        return found == null ? -1 : found.place;
    }

    int differ(int a, int b) {
        size(a);
        size(b);
        differing = new ArrayList<>();
        for (int n = 1; n <= 40; n++) {
            Found one = revisions.get(a).found.get(n);
            Found two = revisions.get(b).found.get(n);
            if (one == null && two == null || one != null && two != null && one.length == two.length && cut(one).equals(cut(two))) {
                continue;
            }
            differing.add(new int[] {n, one == null ? 1 : two == null ? 2 : 3});
        }
        return differing.size();
    }

    /** The bytes of an object that are in the file as it is now. */
    private String cut(Found found) {
        int end = Math.min(file.length(), found.from + found.length);
        return found.from >= end ? "" : file.substring(found.from, end);
    }

    int row(int i, int what) {
        check(i >= 0 && i < differing.size() && (what == 0 || what == 1));
        return differing.get(i)[what];
    }

    int told(int what) {
        int[] all = {file.length(), revisions.size(), objects.size(), changed().size(), altered ? 1 : 0};
        return what < 0 || what >= all.length ? -1 : all[what];
    }
}
