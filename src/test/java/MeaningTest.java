import java.util.ArrayList;
import java.util.List;
import java.util.Random;

/**
 * What the made machines mean, without a model of how they are made: which rows they read and
 * write, with which weight, by chosen small machines whose rows can all be asked for.
 */
public final class MeaningTest {
    private static final int RUNS = 300;
    private static final int NONE = WeighedMachines.NONE;
    private static final int FULL = WeighedMachines.FULL;
    /** Slot 0 and 1 are given, slot 2 is made, slot 3 is for looking. */
    private static final int MADE = 2;
    private static final int SPARE = 3;
    /** Above the arcs of any path in a line, so that a faulty object cannot keep the test going. */
    private static final int MOST_STEPS = 16;

    private final Check check;
    private final Random random;
    private int composed;

    private MeaningTest(Check check) {
        this.check = check;
        random = new Random(20);
    }

    public static void main(String[] args) {
        Check check = new Check();
        MeaningTest test = new MeaningTest(check);
        test.often("it reads what a reads and writes what b writes, what a writes being what b reads", test::composition);
        test.often("The machine of a without empty steps (arcs with in and out 0)", test::withoutEmptySteps);
        test.often("A machine with one way for each row of labels", test::oneWayForEachRow);
        test.often("The machine of a with weights pushed forward", test::pushedForward);
        test.often("The machine of a with those states alone that lie on paths", test::trimmed);
        test.often("the BEST path, which is kept: the one of least weight", test::bestOfAllRows);
        test.often("printed as a text and parsed again", test::printedAndParsed);
        check.sentence("of the test itself");
        check.due("half of the compositions were not refused", test.composed > RUNS / 2, true);
        check.finish();
    }

    private void often(String sentence, Runnable test) {
        check.sentence(sentence);
        for (int run = 0; run < RUNS && !check.isAnyWrong(); run++) {
            test.run();
        }
    }

    /** Rows of the labels 1 and 2, the shorter ones first. */
    private static List<Integer> rows(int longest) {
        List<Integer> rows = new ArrayList<>(List.of(0));
        for (int at = 0, length = 1; length <= longest; length++) {
            for (int stop = rows.size(); at < stop; at++) {
                rows.add(10 * rows.get(at) + 1);
                rows.add(10 * rows.get(at) + 2);
            }
        }
        return rows;
    }

    /** A machine of the labels 0 to 2: in a line alone forward, so that its paths have an end. */
    private String machine(int n, boolean line, boolean copies) {
        StringBuilder told = new StringBuilder("n" + n + ";s" + random.nextInt(line ? 1 : n) + "/" + random.nextInt(4) + ";");
        for (int q = 0; q < n; q++) {
            if (random.nextInt(2) == 0) {
                told.append("f" + q + "/" + random.nextInt(4) + ";");
            }
        }
        for (int k = random.nextInt(3 * n); k > 0; k--) {
            int from = random.nextInt(n);
            int to = random.nextInt(n);
            int in = random.nextInt(copies ? 2 : 3) + (copies ? 1 : 0);
            int out = copies ? in : random.nextInt(3);
            if (!line || from < to) {
                told.append(from + "-" + to + ":" + in + out + "/" + random.nextInt(6) + ";");
            }
        }
        return told.toString();
    }

    private static long lesser(long one, long other) {
        return one == NONE || other != NONE && other < one ? other : one;
    }

    private void sameWeights(Run x, String of, List<Integer> rows) {
        for (int read : rows) {
            for (int written : rows) {
                String call = "weigh(" + read + ", " + written + ") of what is made of " + of;
                check.due(call, x.weigh(MADE, read, written), x.weigh(0, read, written));
            }
        }
    }

    private void composition() {
        String a = machine(3, true, false);
        String b = machine(3, true, false);
        Run x = new Run();
        Machines.set(x, 0, a);
        Machines.set(x, 1, b);
        if (x.compose(0, 1, MADE) == FULL) {
            return;
        }
        composed++;
        List<Integer> rows = rows(2);
        for (int read : rows) {
            for (int written : rows) {
                long least = NONE;
                for (int middle : rows) {
                    long one = x.weigh(0, read, middle);
                    long other = x.weigh(1, middle, written);
                    least = lesser(least, one == NONE || other == NONE ? NONE : one + other);
                }
                check.due("weigh(" + read + ", " + written + ") of " + a + " and " + b, x.weigh(MADE, read, written), least);
            }
        }
    }

    private void withoutEmptySteps() {
        String a = machine(4, false, false);
        Run x = new Run();
        Machines.set(x, 0, a);
        check.due("bare of " + a + " is made", x.bare(0, MADE) >= 0, true);
        sameWeights(x, a, rows(2));
        for (int k = 0; k < x.count(MADE, 1); k++) {
            check.due("arc " + k + " of bare of " + a + " is empty", x.part(MADE, k, 2) + x.part(MADE, k, 3) == 0, false);
        }
    }

    private void oneWayForEachRow() {
        String a = machine(5, true, true);
        Run x = new Run();
        Machines.set(x, 0, a);
        check.due("determine of " + a + " is made", x.determine(0, MADE) > 0, true);
        for (int row : rows(4)) {
            check.due("weigh(" + row + ", " + row + ") of determine of " + a, x.weigh(MADE, row, row), x.weigh(0, row, row));
        }
        for (int k = 1; k < x.count(MADE, 1); k++) {
            boolean again = x.part(MADE, k, 0) == x.part(MADE, k - 1, 0) && x.part(MADE, k, 2) == x.part(MADE, k - 1, 2);
            check.due("arc " + k + " of determine of " + a + " is a second way", again, false);
        }
    }

    /** The onward weight of a state, by the best path of a copy that starts there. */
    private static long onward(Run x, int slot, int q) {
        x.print(slot);
        x.parse(SPARE);
        x.start(SPARE, q, 0);
        return x.best(SPARE);
    }

    private void pushedForward() {
        String a = machine(4, false, false);
        Run x = new Run();
        Machines.set(x, 0, a);
        check.due("push of " + a + " is made", x.push(0, MADE) >= 0, true);
        sameWeights(x, a, rows(2));
        for (int q = 0; q < x.count(0, 0); q++) {
            long due = onward(x, 0, q) == NONE ? NONE : 0;
            check.due("the onward weight of " + q + " in push of " + a, onward(x, MADE, q), due);
        }
    }

    /** Whether there is a path by the state, by the best paths to it and from it. */
    private static boolean isOnPath(Run x, int slot, int q) {
        if (onward(x, slot, q) == NONE) {
            return false;
        }
        x.print(slot);
        x.parse(SPARE);
        for (int p = 0; p < x.count(SPARE, 0); p++) {
            x.end(SPARE, p, p == q ? 0 : -1);
        }
        return x.best(SPARE) != NONE;
    }

    private void trimmed() {
        String a = machine(4, false, false);
        Run x = new Run();
        Machines.set(x, 0, a);
        int kept = 0;
        for (int q = 0; q < x.count(0, 0); q++) {
            kept += isOnPath(x, 0, q) ? 1 : 0;
        }
        check.due("trim of " + a, x.trim(0, MADE), kept);
        sameWeights(x, a, rows(2));
        for (int q = 0; q < x.count(MADE, 0); q++) {
            check.due("state " + q + " of trim of " + a + " is on a path", isOnPath(x, MADE, q), true);
        }
    }

    private void bestOfAllRows() {
        String a = machine(4, true, false);
        Run x = new Run();
        Machines.set(x, 0, a);
        long least = NONE;
        for (int read : rows(3)) {
            for (int written : rows(3)) {
                least = lesser(least, x.weigh(0, read, written));
            }
        }
        check.due("best of " + a, x.best(0), least);
        if (least == NONE) {
            return;
        }
        int at = x.count(0, 3);
        long sum = x.count(0, 4);
        int read = 0;
        int written = 0;
        for (int k = 0; k < MOST_STEPS && x.step(k, 0) == at; k++) {
            read = x.step(k, 2) == 0 ? read : 10 * read + x.step(k, 2);
            written = x.step(k, 3) == 0 ? written : 10 * written + x.step(k, 3);
            sum += x.step(k, 4);
            at = x.step(k, 1);
        }
        check.due("the weights along the best path of " + a, sum + x.endOf(0, at), least);
        check.due("the weight of what the best path of " + a + " reads and writes", x.weigh(0, read, written), least);
    }

    private void printedAndParsed() {
        Run x = new Run();
        Machines.set(x, 0, machine(5, false, false));
        int letters = x.print(0);
        String text = Machines.text(x);
        check.due("print", letters, text.length());
        check.due("parse of " + text, x.parse(MADE), x.count(0, 1));
        check.due("the machine of " + text, Machines.show(x, MADE), Machines.show(x, 0));
        check.due("the print of a machine in order", text, Machines.show(x, 0));
    }
}
