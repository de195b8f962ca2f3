import java.util.ArrayList;
import java.util.Comparator;
import java.util.LinkedHashMap;
import java.util.List;
import java.util.Map;
import java.util.PriorityQueue;
import java.util.TreeMap;

/**
 * The document once more, told with the Java library and by other ways than the program's: what
 * is made is made whole and measured afterwards, and nothing is held in rows of numbers.
 */
final class Reference {
    static final long MOST = 1000000000L;

    record Arc(int from, int in, int out, int to) implements Comparable<Arc> {
        private static final Comparator<Arc> ORDER =
            Comparator.comparingInt(Arc::from).thenComparingInt(Arc::in).thenComparingInt(Arc::out).thenComparingInt(Arc::to);

        @Override
        public int compareTo(Arc other) {
            return ORDER.compare(this, other);
        }
    }

    static final class Machine {
        int n;
        int start = -1;
        long startWeight;
        TreeMap<Integer, Long> ends = new TreeMap<>();
        TreeMap<Arc, Long> arcs = new TreeMap<>();

        Machine(int n) {
            this.n = n;
        }

        Machine(Machine other) {
            n = other.n;
            start = other.start;
            startWeight = other.startWeight;
            ends.putAll(other.ends);
            arcs.putAll(other.arcs);
        }

        void come(Arc arc, long weight) {
            arcs.merge(arc, weight, Math::min);
        }

        boolean isFull() {
            boolean full = n > 16 || arcs.size() > 64 || start >= 0 && startWeight > MOST;
            for (long weight : ends.values()) {
                full |= weight > MOST;
            }
            for (long weight : arcs.values()) {
                full |= weight > MOST;
            }
            return full;
        }

        List<Map.Entry<Arc, Long>> arcsOf(int q) {
            return arcs.entrySet().stream().filter(e -> e.getKey().from == q).toList();
        }

        String show() {
            StringBuilder told = new StringBuilder("n" + n + ";");
            if (start >= 0) {
                told.append("s" + start + "/" + startWeight + ";");
            }
            ends.forEach((q, weight) -> told.append("f" + q + "/" + weight + ";"));
            arcs.forEach((arc, weight) -> told.append(showArc(arc, weight)));
            return told.toString();
        }
    }

    static String showArc(Arc arc, long weight) {
        return arc.from + "-" + arc.to + ":" + arc.in + arc.out + "/" + weight + ";";
    }

    final Machine[] slots = {new Machine(0), new Machine(0), new Machine(0), new Machine(0)};
    String text = "";
    String path = "";

    private static boolean isSlot(int slot) {
        return slot >= 0 && slot <= 3;
    }

    private boolean isState(int slot, int q) {
        return isSlot(slot) && q >= 0 && q < slots[slot].n;
    }

    private static boolean isWeight(int w) {
        return w >= 0 && w <= MOST;
    }

    boolean fresh(int slot, int n) {
        if (!isSlot(slot) || n < 0 || n > 16) {
            return false;
        }
        slots[slot] = new Machine(n);
        return true;
    }

    boolean start(int slot, int q, int w) {
        if (!isState(slot, q) || !isWeight(w)) {
            return false;
        }
        slots[slot].start = q;
        slots[slot].startWeight = w;
        return true;
    }

    boolean end(int slot, int q, int w) {
        if (!isState(slot, q) || w != -1 && !isWeight(w)) {
            return false;
        }
        if (w == -1) {
            slots[slot].ends.remove(q);
        } else {
            slots[slot].ends.put(q, (long) w);
        }
        return true;
    }

    int arc(int slot, int from, int to, int labels, int w) {
        if (!isState(slot, from) || !isState(slot, to) || labels < 0 || labels > 63 || !isWeight(w)) {
            return -1;
        }
        Machine made = new Machine(slots[slot]);
        made.come(new Arc(from, labels / 8, labels % 8, to), w);
        return settle(made, slot, 1);
    }

    /** Answers the number of states (what = 0) or of arcs (1) of what was made. */
    private int settle(Machine made, int slot, int what) {
        if (made.isFull()) {
            return -2;
        }
        slots[slot] = made;
        return what == 0 ? made.n : made.arcs.size();
    }

    int compose(int a, int b, int c) {
        if (!isSlot(a) || !isSlot(b) || !isSlot(c)) {
            return -1;
        }
        Machine x = slots[a];
        Machine y = slots[b];
        Machine made = new Machine(0);
        if (x.start >= 0 && y.start >= 0) {
            List<List<Integer>> found = new ArrayList<>();
            found.add(List.of(x.start, y.start, 0));
            made.start = 0;
            made.startWeight = x.startWeight + y.startWeight;
            for (int s = 0; s < found.size(); s++) {
                composeFrom(x, y, found, s, made);
            }
            made.n = found.size();
        }
        return settle(made, c, 0);
    }

    private static int find(List<List<Integer>> found, int p, int q, int f) {
        List<Integer> triple = List.of(p, q, f);
        if (!found.contains(triple)) {
            found.add(triple);
        }
        return found.indexOf(triple);
    }

    private static void composeFrom(Machine x, Machine y, List<List<Integer>> found, int s, Machine made) {
        int p = found.get(s).get(0);
        int q = found.get(s).get(1);
        int f = found.get(s).get(2);
        if (x.ends.containsKey(p) && y.ends.containsKey(q)) {
            made.ends.put(s, x.ends.get(p) + y.ends.get(q));
        }
        for (boolean empty : f == 0 ? new boolean[] {false, true} : new boolean[] {false}) {
            for (var one : x.arcsOf(p)) {
                for (var two : y.arcsOf(q)) {
                    if (one.getKey().out == two.getKey().in && (one.getKey().out == 0) == empty) {
                        int to = find(found, one.getKey().to, two.getKey().to, 0);
                        made.come(new Arc(s, one.getKey().in, two.getKey().out, to), one.getValue() + two.getValue());
                    }
                }
            }
        }
        for (var one : x.arcsOf(p)) {
            if (f != 2 && one.getKey().out == 0) {
                made.come(new Arc(s, one.getKey().in, 0, find(found, one.getKey().to, q, 1)), one.getValue());
            }
        }
        for (var two : y.arcsOf(q)) {
            if (f != 1 && two.getKey().in == 0) {
                made.come(new Arc(s, 0, two.getKey().out, find(found, p, two.getKey().to, 2)), two.getValue());
            }
        }
    }

    /** Least weights of ways between all states, null where there is none; of empty steps alone, or of all arcs. */
    private static Long[][] ways(Machine x, boolean emptyAlone) {
        Long[][] d = new Long[x.n][x.n];
        for (int q = 0; q < x.n; q++) {
            d[q][q] = 0L;
        }
        x.arcs.forEach((arc, weight) -> {
            if (!emptyAlone || arc.in == 0 && arc.out == 0) {
                Long old = d[arc.from][arc.to];
                d[arc.from][arc.to] = old == null ? weight : Math.min(old, weight);
            }
        });
        for (int k = 0; k < x.n; k++) {
            for (int i = 0; i < x.n; i++) {
                for (int j = 0; j < x.n; j++) {
                    if (d[i][k] != null && d[k][j] != null && (d[i][j] == null || d[i][j] > d[i][k] + d[k][j])) {
                        d[i][j] = d[i][k] + d[k][j];
                    }
                }
            }
        }
        return d;
    }

    int bare(int a, int c) {
        if (!isSlot(a) || !isSlot(c)) {
            return -1;
        }
        Machine x = slots[a];
        Machine made = new Machine(x.n);
        made.start = x.start;
        made.startWeight = x.startWeight;
        Long[][] d = ways(x, true);
        for (int p = 0; p < x.n; p++) {
            for (int q = 0; q < x.n; q++) {
                if (d[p][q] == null) {
                    continue;
                }
                for (var one : x.arcsOf(q)) {
                    if (one.getKey().in != 0 || one.getKey().out != 0) {
                        made.come(new Arc(p, one.getKey().in, one.getKey().out, one.getKey().to), d[p][q] + one.getValue());
                    }
                }
                if (x.ends.containsKey(q)) {
                    made.ends.merge(p, d[p][q] + x.ends.get(q), Math::min);
                }
            }
        }
        return settle(made, c, 1);
    }

    int determine(int a, int c) {
        if (!isSlot(a) || !isSlot(c)) {
            return -1;
        }
        Machine x = slots[a];
        Long[][] d = ways(x, false);
        for (Arc arc : x.arcs.keySet()) {
            if (arc.in == 0 || arc.in != arc.out || d[arc.to][arc.from] != null) {
                return -3;
            }
        }
        Machine made = new Machine(0);
        if (x.start >= 0) {
            made.start = 0;
            made.startWeight = x.startWeight;
            List<TreeMap<Integer, Long>> found = new ArrayList<>();
            found.add(new TreeMap<>(Map.of(x.start, 0L)));
            for (int s = 0; s < found.size() && s < 40; s++) {
                determineFrom(x, found, s, made);
            }
            made.n = found.size();
        }
        return settle(made, c, 0);
    }

    private static void determineFrom(Machine x, List<TreeMap<Integer, Long>> found, int s, Machine made) {
        found.get(s).forEach((q, rest) -> {
            if (x.ends.containsKey(q)) {
                made.ends.merge(s, rest + x.ends.get(q), Math::min);
            }
        });
        for (int label = 1; label <= 7; label++) {
            TreeMap<Integer, Long> sums = new TreeMap<>();
            for (var one : x.arcs.entrySet()) {
                if (one.getKey().in == label && found.get(s).containsKey(one.getKey().from)) {
                    sums.merge(one.getKey().to, found.get(s).get(one.getKey().from) + one.getValue(), Math::min);
                }
            }
            if (!sums.isEmpty()) {
                long least = sums.values().stream().min(Long::compare).get();
                sums.replaceAll((q, sum) -> sum - least);
                if (!found.contains(sums)) {
                    found.add(sums);
                }
                made.come(new Arc(s, label, label, found.indexOf(sums)), least);
            }
        }
    }

    private static Map<Integer, Long> onward(Machine x) {
        Long[][] d = ways(x, false);
        Map<Integer, Long> onward = new TreeMap<>();
        for (int p = 0; p < x.n; p++) {
            for (int q : x.ends.keySet()) {
                if (d[p][q] != null) {
                    onward.merge(p, d[p][q] + x.ends.get(q), Math::min);
                }
            }
        }
        return onward;
    }

    int push(int a, int c) {
        if (!isSlot(a) || !isSlot(c)) {
            return -1;
        }
        Machine x = slots[a];
        Map<Integer, Long> d = onward(x);
        Machine made = new Machine(x.n);
        made.start = x.start;
        made.startWeight = x.startWeight + d.getOrDefault(x.start, 0L);
        x.ends.forEach((q, weight) -> made.ends.put(q, weight - d.get(q)));
        x.arcs.forEach((arc, weight) -> {
            if (d.containsKey(arc.from) && d.containsKey(arc.to)) {
                made.come(arc, weight + d.get(arc.to) - d.get(arc.from));
            }
        });
        return settle(made, c, 1);
    }

    int trim(int a, int c) {
        if (!isSlot(a) || !isSlot(c)) {
            return -1;
        }
        Machine x = slots[a];
        Map<Integer, Long> onward = onward(x);
        Long[][] d = ways(x, false);
        Map<Integer, Integer> kept = new LinkedHashMap<>();
        for (int q = 0; q < x.n; q++) {
            if (x.start >= 0 && d[x.start][q] != null && onward.containsKey(q)) {
                kept.put(q, kept.size());
            }
        }
        Machine made = new Machine(kept.size());
        made.start = kept.getOrDefault(x.start, -1);
        made.startWeight = x.startWeight;
        x.ends.forEach((q, weight) -> {
            if (kept.containsKey(q)) {
                made.ends.put(kept.get(q), weight);
            }
        });
        x.arcs.forEach((arc, weight) -> {
            if (kept.containsKey(arc.from) && kept.containsKey(arc.to)) {
                made.come(new Arc(kept.get(arc.from), arc.in, arc.out, kept.get(arc.to)), weight);
            }
        });
        return settle(made, c, 0);
    }

    private record Place(int q, String read, String written, long weight) {
    }

    private static boolean isRow(int x) {
        return x == 0 || Integer.toString(x).matches("[1-7]{1,8}");
    }

    private static String row(int x) {
        return x == 0 ? "" : Integer.toString(x);
    }

    private static String label(int label) {
        return label == 0 ? "" : Integer.toString(label);
    }

    long weigh(int slot, int x, int y) {
        if (!isSlot(slot) || !isRow(x) || !isRow(y) || slots[slot].start < 0) {
            return -1;
        }
        Machine m = slots[slot];
        PriorityQueue<Place> open = new PriorityQueue<>(Comparator.comparingLong(Place::weight));
        Map<String, Boolean> done = new TreeMap<>();
        open.add(new Place(m.start, "", "", m.startWeight));
        long least = -1;
        while (!open.isEmpty()) {
            Place at = open.remove();
            if (done.put(at.q + " " + at.read + " " + at.written, true) != null) {
                continue;
            }
            if (at.read.equals(row(x)) && at.written.equals(row(y)) && m.ends.containsKey(at.q)) {
                long sum = at.weight + m.ends.get(at.q);
                least = least < 0 ? sum : Math.min(least, sum);
            }
            for (var one : m.arcsOf(at.q)) {
                String read = at.read + label(one.getKey().in);
                String written = at.written + label(one.getKey().out);
                if (row(x).startsWith(read) && row(y).startsWith(written)) {
                    open.add(new Place(one.getKey().to, read, written, at.weight + one.getValue()));
                }
            }
        }
        return least;
    }

    private record Way(long weight, List<Arc> arcs) implements Comparable<Way> {
        @Override
        public int compareTo(Way other) {
            if (weight != other.weight) {
                return Long.compare(weight, other.weight);
            }
            if (arcs.size() != other.arcs.size()) {
                return Integer.compare(arcs.size(), other.arcs.size());
            }
            for (int k = 0; k < arcs.size(); k++) {
                if (arcs.get(k).compareTo(other.arcs.get(k)) != 0) {
                    return arcs.get(k).compareTo(other.arcs.get(k));
                }
            }
            return 0;
        }
    }

    /** The best ways from the start to each state with k arcs, for one k after the other. */
    long best(int slot) {
        if (!isSlot(slot) || slots[slot].start < 0) {
            return -1;
        }
        Machine m = slots[slot];
        Map<Integer, Way> ways = new TreeMap<>(Map.of(m.start, new Way(m.startWeight, List.of())));
        Way best = null;
        for (int k = 0; k <= m.n; k++) {
            for (var at : ways.entrySet()) {
                if (m.ends.containsKey(at.getKey())) {
                    Way whole = new Way(at.getValue().weight + m.ends.get(at.getKey()), at.getValue().arcs);
                    best = best == null || whole.compareTo(best) < 0 ? whole : best;
                }
            }
            Map<Integer, Way> next = new TreeMap<>();
            for (var one : m.arcs.entrySet()) {
                Way before = ways.get(one.getKey().from);
                if (before != null) {
                    List<Arc> arcs = new ArrayList<>(before.arcs);
                    arcs.add(one.getKey());
                    next.merge(one.getKey().to, new Way(before.weight + one.getValue(), arcs), (v, w) -> v.compareTo(w) < 0 ? v : w);
                }
            }
            ways = next;
        }
        if (best == null) {
            return -1;
        }
        StringBuilder told = new StringBuilder();
        best.arcs.forEach(arc -> told.append(showArc(arc, m.arcs.get(arc))));
        path = told.toString();
        return best.weight;
    }

    int print(int slot) {
        if (!isSlot(slot)) {
            return -1;
        }
        text = slots[slot].show();
        return text.length();
    }

    int feed(long characters, int n) {
        if (n == 0) {
            text = "";
            return 0;
        }
        if (n < 1 || n > 8 || text.length() + n > 1600) {
            return -1;
        }
        StringBuilder letters = new StringBuilder();
        for (int i = 0; i < n; i++) {
            letters.insert(0, (char) (characters >>> 8 * i & 255));
        }
        if (!letters.toString().matches("[ -~]*")) {
            return -1;
        }
        text += letters;
        return text.length();
    }

    int parse(int slot) {
        if (!isSlot(slot)) {
            return -1;
        }
        Scan scan = new Scan();
        for (int i = 0; i <= text.length() && scan.answer == 0; i++) {
            scan.meet(i < text.length() ? text.charAt(i) : '\n');
        }
        if (scan.answer != 0) {
            return scan.answer;
        }
        slots[slot] = scan.made;
        return scan.made.arcs.size();
    }

    String all() {
        StringBuilder told = new StringBuilder();
        for (Machine machine : slots) {
            told.append(machine.show()).append('\n');
        }
        return told + text + "\n" + path;
    }

    /** Meets the text a character at a time; each item is a form, of which the next sign is due. */
    private static final class Scan {
        /** N size, Q a state, W a weight, L a label; what else stands there is itself. */
        private String form = "nN;";
        private int at;
        private String digits = "";
        private final List<Long> numbers = new ArrayList<>();
        private char kind = 'n';
        private Machine made = new Machine(0);
        private int answer;

        void meet(char c) {
            if (at == form.length()) {
                begin(c);
                if (answer != 0 || at == form.length()) {
                    return;
                }
            }
            char due = form.charAt(at);
            boolean digit = c >= '0' && c <= '9';
            if (due == 'L') {
                answer = !digit ? -4 : c > '7' ? -5 : 0;
                numbers.add((long) (c - '0'));
                at++;
            } else if (due == 'N' || due == 'Q' || due == 'W') {
                if (digit) {
                    answer = digits.length() == 10 || digits.equals("0") ? -4 : 0;
                    digits += c;
                } else {
                    endNumber(due);
                    at++;
                    if (answer == 0) {
                        meet(c);
                    }
                }
            } else if (due != c) {
                answer = -4;
            } else {
                at++;
                if (at == form.length()) {
                    endItem();
                }
            }
        }

        private void begin(char c) {
            if (c == '\n') {
                return;
            }
            kind = c == 's' || c == 'f' ? c : 'a';
            form = kind == 'a' ? "Q-Q:LL/W;" : c + "Q/W;";
            at = 0;
            numbers.clear();
        }

        private void endNumber(char due) {
            if (digits.isEmpty()) {
                answer = -4;
                return;
            }
            long number = Long.parseLong(digits);
            long most = due == 'N' ? 16 : due == 'Q' ? made.n - 1 : MOST;
            if (number > most) {
                answer = -5;
            } else if (due == 'Q' && (kind == 's' && made.start >= 0 || kind == 'f' && made.ends.containsKey((int) number))) {
                answer = -6;
            }
            numbers.add(number);
            digits = "";
        }

        private int number(int k) {
            return numbers.get(k).intValue();
        }

        private void endItem() {
            if (kind == 'n') {
                made.n = number(0);
            } else if (kind == 's') {
                made.start = number(0);
                made.startWeight = numbers.get(1);
            } else if (kind == 'f') {
                made.ends.put(number(0), numbers.get(1));
            } else {
                made.come(new Arc(number(0), number(2), number(3), number(1)), numbers.get(4));
                answer = made.arcs.size() > 64 ? -2 : 0;
            }
        }
    }
}
