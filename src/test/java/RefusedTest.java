import java.util.function.Function;

/** 'A call that is refused changes nothing.': a test for each call that can be refused, and each way of it. */
public final class RefusedTest {
    private static final int NONE = WeighedMachines.NONE;
    private static final int FULL = WeighedMachines.FULL;
    private static final int UNFIT = WeighedMachines.UNFIT;
    private static final int SYNTAX = WeighedMachines.SYNTAX;
    private static final int RANGE = WeighedMachines.RANGE;
    private static final int TWICE = WeighedMachines.TWICE;
    private static final int NO = 0;
    private static final int MOST = 1000000000;
    private static final int[] NO_SLOTS = {-1, 4, Integer.MIN_VALUE, Integer.MAX_VALUE};
    private static final int[] NO_STATES = {-1, 3, 16, Integer.MIN_VALUE, Integer.MAX_VALUE};
    private static final int[] NO_WEIGHTS = {-2, MOST + 1, Integer.MIN_VALUE, Integer.MAX_VALUE};
    /** Of large weights: composed with itself, bared or pushed it is FULL; it has a way round and unlike labels. */
    private static final String LARGE = "n3;s0/900000000;f2/900000000;0-1:00/900000000;1-2:12/900000000;2-2:11/900000000;";
    /** Fit to be determined, which is FULL. */
    private static final String RESTS = "n4;s0/1;f3/2;0-1:11/0;0-2:11/1000000000;2-3:22/1;";
    private static final String SMALL = "n3;s1/4;f0/5;f2/6;1-0:12/7;1-2:21/8;";
    private static final Check check = new Check();
    private static final String FULL_ONE = Machines.allPairs(3, 5);

    public static void main(String[] args) {
        fresh();
        start();
        end();
        arc();
        arcFull();
        compose();
        composeFull();
        bare();
        bareFull();
        determine();
        determineUnfit();
        determineFull();
        push();
        pushFull();
        trim();
        best();
        print();
        parse();
        parseFaults();
        feed();
        afterwards();
        check.finish();
    }

    /** All four machines, a text and a best path: there is something of each kind to be changed. */
    private static Run filled() {
        Run x = new Run();
        Machines.set(x, 0, LARGE);
        Machines.set(x, 1, SMALL);
        Machines.set(x, 2, RESTS);
        Machines.set(x, 3, "n2;s0/1;f1/1;0-1:17/3;");
        x.best(3);
        Machines.feed(x, "n1;s0/0;");
        return x;
    }

    private static void refused(Run x, String call, Function<Run, Integer> made, int due) {
        String before = Machines.all(x);
        check.due(call, made.apply(x), due);
        check.due("all after " + call, Machines.all(x), before);
    }

    private static void refused(String call, Function<Run, Integer> made, int due) {
        refused(filled(), call, made, due);
    }

    private static int told(boolean answer) {
        return answer ? 1 : NO;
    }

    private static void sentence(String call) {
        check.sentence("A call that is refused changes nothing: " + call);
    }

    private static void fresh() {
        sentence("fresh");
        for (int slot : NO_SLOTS) {
            refused("fresh(" + slot + ", 1)", x -> told(x.fresh(slot, 1)), NO);
        }
        for (int n : new int[] {-1, 17, Integer.MIN_VALUE, Integer.MAX_VALUE}) {
            for (int slot = 0; slot < 4; slot++) {
                int s = slot;
                refused("fresh(" + slot + ", " + n + ")", x -> told(x.fresh(s, n)), NO);
            }
        }
    }

    private static void start() {
        sentence("start");
        for (int slot : NO_SLOTS) {
            refused("start(" + slot + ", 0, 0)", x -> told(x.start(slot, 0, 0)), NO);
        }
        for (int q : NO_STATES) {
            refused("start(1, " + q + ", 0)", x -> told(x.start(1, q, 0)), NO);
        }
        for (int w : NO_WEIGHTS) {
            refused("start(1, 0, " + w + ")", x -> told(x.start(1, 0, w)), NO);
        }
        refused("start(1, 0, -1)", x -> told(x.start(1, 0, -1)), NO);
        refused("start(1, 1, -1)", x -> told(x.start(1, 1, -1)), NO);
    }

    private static void end() {
        sentence("end");
        for (int slot : NO_SLOTS) {
            refused("end(" + slot + ", 0, -1)", x -> told(x.end(slot, 0, -1)), NO);
        }
        for (int q : NO_STATES) {
            refused("end(1, " + q + ", 0)", x -> told(x.end(1, q, 0)), NO);
            refused("end(1, " + q + ", -1)", x -> told(x.end(1, q, -1)), NO);
        }
        for (int w : NO_WEIGHTS) {
            refused("end(1, 0, " + w + ")", x -> told(x.end(1, 0, w)), NO);
            refused("end(1, 1, " + w + ")", x -> told(x.end(1, 1, w)), NO);
        }
    }

    private static void arc() {
        sentence("arc, NONE");
        for (int slot : NO_SLOTS) {
            refused("arc(" + slot + ", 0, 0, 0, 0)", x -> x.arc(slot, 0, 0, 0, 0), NONE);
        }
        for (int q : NO_STATES) {
            refused("arc(1, " + q + ", 0, 0, 0)", x -> x.arc(1, q, 0, 0, 0), NONE);
            refused("arc(1, 0, " + q + ", 0, 0)", x -> x.arc(1, 0, q, 0, 0), NONE);
        }
        for (int labels : new int[] {-1, 64, Integer.MIN_VALUE, Integer.MAX_VALUE}) {
            refused("arc(1, 1, 0, " + labels + ", 0)", x -> x.arc(1, 1, 0, labels, 0), NONE);
        }
        for (int w : NO_WEIGHTS) {
            refused("arc(1, 0, 0, 0, " + w + ")", x -> x.arc(1, 0, 0, 0, w), NONE);
            refused("arc(1, 1, 0, 10, " + w + ")", x -> x.arc(1, 1, 0, 10, w), NONE);
        }
        refused("arc(1, 1, 0, 10, -1)", x -> x.arc(1, 1, 0, 10, -1), NONE);
    }

    private static void arcFull() {
        sentence("arc, FULL");
        Run x = filled();
        Machines.set(x, 1, FULL_ONE.replace("0-0:", "1-1:"));
        refused(x, "a 65th before the others", y -> y.arc(1, 0, 0, 0, 0), FULL);
        refused(x, "a 65th among them", y -> y.arc(1, 1, 0, 30, 0), FULL);
        refused(x, "a 65th behind them", y -> y.arc(1, 2, 2, 63, 0), FULL);
    }

    private static void compose() {
        sentence("compose, NONE");
        for (int no : NO_SLOTS) {
            refused("compose(" + no + ", 1, 2)", x -> x.compose(no, 1, 2), NONE);
            refused("compose(1, " + no + ", 2)", x -> x.compose(1, no, 2), NONE);
            refused("compose(1, 1, " + no + ")", x -> x.compose(1, 1, no), NONE);
        }
    }

    private static void composeFull() {
        sentence("compose, FULL");
        for (int c = 0; c < 4; c++) {
            int slot = c;
            refused("a weight above, compose(0, 0, " + c + ")", x -> x.compose(0, 0, slot), FULL);
            Run arcs = filled();
            Machines.set(arcs, 0, FULL_ONE + "s0/0;");
            Machines.set(arcs, 1, "n3;s0/0;0-1:11/1;0-1:72/1;0-0:00/1;");
            refused(arcs, "too many arcs, compose(0, 1, " + c + ")", x -> x.compose(0, 1, slot), FULL);
            Run states = filled();
            Machines.set(states, 0, "n5;s0/0;0-1:11/0;1-2:11/0;2-3:11/0;3-4:11/0;4-0:11/0;");
            Machines.set(states, 1, "n4;s0/0;0-1:11/0;1-2:11/0;2-3:11/0;3-0:11/0;");
            refused(states, "too many states, compose(0, 1, " + c + ")", x -> x.compose(0, 1, slot), FULL);
        }
    }

    private static void bare() {
        sentence("bare, NONE");
        for (int no : NO_SLOTS) {
            refused("bare(" + no + ", 1)", x -> x.bare(no, 1), NONE);
            refused("bare(1, " + no + ")", x -> x.bare(1, no), NONE);
        }
    }

    private static void bareFull() {
        sentence("bare, FULL");
        for (int c = 0; c < 4; c++) {
            int slot = c;
            refused("a weight above, bare(0, " + c + ")", x -> x.bare(0, slot), FULL);
            Run arcs = filled();
            Machines.set(arcs, 0, FULL_ONE.replace("0-0:00/5;", "1-0:00/5;"));
            refused(arcs, "too many arcs, bare(0, " + c + ")", x -> x.bare(0, slot), FULL);
        }
    }

    private static void determine() {
        sentence("determine, NONE");
        for (int no : NO_SLOTS) {
            refused("determine(" + no + ", 1)", x -> x.determine(no, 1), NONE);
            refused("determine(2, " + no + ")", x -> x.determine(2, no), NONE);
        }
    }

    private static void determineUnfit() {
        sentence("determine, UNFIT");
        for (int c = 0; c < 4; c++) {
            int slot = c;
            refused("empty steps, determine(0, " + c + ")", x -> x.determine(0, slot), UNFIT);
            refused("another out, determine(1, " + c + ")", x -> x.determine(1, slot), UNFIT);
            Run round = filled();
            Machines.set(round, 0, "n3;s0/1;f0/1;1-2:11/1;2-1:22/1;");
            refused(round, "a way round, determine(0, " + c + ")", x -> x.determine(0, slot), UNFIT);
        }
    }

    private static void determineFull() {
        sentence("determine, FULL");
        StringBuilder sets = new StringBuilder("n16;s0/0;0-10:33/0;");
        StringBuilder wide = new StringBuilder("n16;s0/0;4-5:11/0;4-5:22/0;");
        for (int q = 0; q < 4; q++) {
            sets.append(q + "-" + (q + 1) + ":11/0;" + q + "-" + (q + 1) + ":22/0;" + q + "-" + (q + 5) + ":11/" + (1 << q) + ";");
            sets.append((q + 5) + "-" + (q + 6) + ":11/0;" + (q + 5) + "-" + (q + 6) + ":22/0;");
        }
        for (int label = 1; label <= 7; label++) {
            String labels = ":" + label + label + "/";
            wide.append("0-1" + labels + "0;0-2" + labels + label + ";1-3" + labels + "0;3-4" + labels + "0;");
        }
        for (int c = 0; c < 4; c++) {
            int slot = c;
            refused("a weight above, determine(2, " + c + ")", x -> x.determine(2, slot), FULL);
            Run states = filled();
            Machines.set(states, 2, sets.toString());
            refused(states, "too many states, determine(2, " + c + ")", x -> x.determine(2, slot), FULL);
            Run arcs = filled();
            Machines.set(arcs, 2, wide.toString());
            refused(arcs, "too many arcs, determine(2, " + c + ")", x -> x.determine(2, slot), FULL);
        }
    }

    private static void push() {
        sentence("push, NONE");
        for (int no : NO_SLOTS) {
            refused("push(" + no + ", 1)", x -> x.push(no, 1), NONE);
            refused("push(1, " + no + ")", x -> x.push(1, no), NONE);
        }
    }

    private static void pushFull() {
        sentence("push, FULL");
        for (int c = 0; c < 4; c++) {
            int slot = c;
            refused("a start above, push(0, " + c + ")", x -> x.push(0, slot), FULL);
            Run arc = filled();
            Machines.set(arc, 0, "n3;s2/1;f0/0;f1/1;f2/1;0-1:11/1000000000;");
            refused(arc, "an arc above, push(0, " + c + ")", x -> x.push(0, slot), FULL);
        }
    }

    private static void trim() {
        sentence("trim");
        for (int no : NO_SLOTS) {
            refused("trim(" + no + ", 1)", x -> x.trim(no, 1), NONE);
            refused("trim(1, " + no + ")", x -> x.trim(1, no), NONE);
        }
    }

    private static void best() {
        sentence("best");
        for (int no : NO_SLOTS) {
            refused("best(" + no + ")", x -> (int) x.best(no), NONE);
        }
        for (String machine : new String[] {"n0;", "n2;f0/1;0-1:11/1;", "n2;s0/1;0-1:11/1;", "n3;s0/1;f2/1;0-1:11/1;1-0:11/1;"}) {
            Run x = filled();
            Machines.set(x, 0, machine);
            refused(x, "best of " + machine, y -> (int) y.best(0), NONE);
        }
    }

    private static void print() {
        sentence("print");
        for (int no : NO_SLOTS) {
            refused("print(" + no + ")", x -> x.print(no), NONE);
        }
    }

    private static void parse() {
        sentence("parse, NONE");
        for (int no : NO_SLOTS) {
            refused("parse(" + no + ")", x -> x.parse(no), NONE);
        }
    }

    private static void parseFault(String text, int due) {
        Run x = filled();
        Machines.feed(x, text);
        for (int slot = 0; slot < 4; slot++) {
            int s = slot;
            refused(x, "parse(" + slot + ") of " + text, y -> y.parse(s), due);
        }
    }

    private static void parseFaults() {
        sentence("parse, the fault");
        parseFault("", SYNTAX);
        parseFault("n", SYNTAX);
        parseFault("n2;s1/7;f0/8;0-1:11/9;x", SYNTAX);
        parseFault("n2;s1/7;f0/8;0-1:11/9", SYNTAX);
        parseFault("n17;", RANGE);
        parseFault("n2;s1/7;f0/8;0-1:11/9;s2/0;", RANGE);
        parseFault("n2;s1/7;f0/8;0-1:11/9;0-1:11/1000000001;", RANGE);
        parseFault("n2;s1/7;f0/8;0-1:11/9;s0/0;", TWICE);
        parseFault("n2;s1/7;f0/8;0-1:11/9;f0/0;", TWICE);
        parseFault(FULL_ONE + "s1/7;f0/8;0-1:11/9;", FULL);
    }

    private static void feed() {
        sentence("feed");
        long letters = 0x4142434445464748L;
        for (int n : new int[] {-1, 9, Integer.MIN_VALUE, Integer.MAX_VALUE}) {
            refused("feed(.., " + n + ")", x -> x.feed(letters, n), NONE);
        }
        for (int code : new int[] {0, 31, 127, 255}) {
            for (int at = 0; at < 8; at++) {
                long one = letters & ~(255L << 8 * at) | (long) code << 8 * at;
                refused("feed of code " + code + " at " + at, x -> x.feed(one, 8), NONE);
            }
        }
        for (int length = 1593; length <= 1600; length++) {
            Run x = new Run();
            Machines.set(x, 0, SMALL);
            Machines.feed(x, "c".repeat(length));
            refused(x, "feed behind " + length, y -> y.feed(letters, 8), NONE);
        }
    }

    /** What is made after a refused call has nothing of what the refused one would have made. */
    private static void afterwards() {
        sentence("calls behind it");
        Run x = filled();
        check.due("compose", x.compose(0, 0, 0), FULL);
        check.due("trim", x.trim(3, 3), 2);
        check.due("trimmed", Machines.show(x, 3), "n2;s0/1;f1/1;0-1:17/3;");
        check.due("bare", x.bare(0, 0), FULL);
        check.due("push", x.push(3, 3), 1);
        check.due("pushed", Machines.show(x, 3), "n2;s0/5;f1/0;0-1:17/0;");
        check.due("determine", x.determine(2, 2), FULL);
        check.due("bare another one", x.bare(3, 3), 1);
        check.due("bared", Machines.show(x, 3), "n2;s0/5;f1/0;0-1:17/0;");
        check.due("a fault", Machines.parse(x, 3, "n9;s8/8;f7/7;8-7:11/6;x"), SYNTAX);
        check.due("parse", Machines.parse(x, 3, "n2;"), 0);
        check.due("parsed", Machines.show(x, 3), "n2;");
        check.due("push of large weights", x.push(0, 0), FULL);
        check.due("compose of no starts", x.compose(3, 3, 3), 0);
        check.due("composed", Machines.show(x, 3), "n0;");
        check.due("the others", Machines.show(x, 0) + Machines.show(x, 1) + Machines.show(x, 2), LARGE + SMALL + RESTS);
    }
}
