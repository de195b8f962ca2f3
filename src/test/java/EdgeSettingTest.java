/** The edges of promises 1 to 5 and 14 to 16, and of the terms on machines: a test for each sentence. */
public final class EdgeSettingTest {
    private static final int NONE = WeighedMachines.NONE;
    private static final int FULL = WeighedMachines.FULL;
    private static final int MOST = 1000000000;
    private static final int LOWEST = Integer.MIN_VALUE;
    private static final int HIGHEST = Integer.MAX_VALUE;
    private static final int[] NO_SLOTS = {-1, 4, -4, 5, 256, LOWEST, HIGHEST};
    private static final int[] NO_WEIGHTS = {-1, MOST + 1, LOWEST, HIGHEST};
    private static final String TWO = "n2;s1/5;f0/1;0-1:12/3;";
    private static final Check check = new Check();

    public static void main(String[] args) {
        slots();
        states();
        perhapsStart();
        endsForSomeStates();
        sixtyFourArcs();
        labels();
        noTwoTheSame();
        weights();
        order();
        lesserWeight();
        noStatesAtFirst();
        noTextAtFirst();
        noPathAtFirst();
        freshWithoutAnything();
        freshNoSlot();
        freshNoSize();
        startInPlace();
        startNoSlot();
        startNoState();
        startNoWeight();
        endTaken();
        endNoSlot();
        endNoState();
        endNoWeight();
        arcAnswers();
        arcNoSlot();
        arcNoState();
        arcNoLabels();
        arcNoWeight();
        arcFull();
        countNoSlot();
        countNoWhat();
        countNoStart();
        partNone();
        endOfNone();
        check.finish();
    }

    private static Run with(String machine) {
        Run x = new Run();
        Machines.set(x, 0, machine);
        return x;
    }

    private static void slots() {
        check.sentence("Slots 0 .. 3 each hold a machine");
        Run x = new Run();
        for (int slot = 0; slot <= 3; slot++) {
            check.due("fresh(" + slot + ")", x.fresh(slot, 2 + slot), true);
            check.due("start(" + slot + ")", x.start(slot, 1 + slot, 10 + slot), true);
            check.due("end(" + slot + ")", x.end(slot, 1 + slot, 20 + slot), true);
            check.due("arc(" + slot + ")", x.arc(slot, 0, slot, slot, 30 + slot), 1);
        }
        check.due("the four", Machines.all(x), "n2;s1/10;f1/20;0-0:00/30;\nn3;s2/11;f2/21;0-1:01/31;\n"
            + "n4;s3/12;f3/22;0-2:02/32;\nn5;s4/13;f4/23;0-3:03/33;\n\n");
    }

    private static void states() {
        check.sentence("States 0 .. n - 1 (n at most 16)");
        for (int n : new int[] {0, 1, 2, 15, 16}) {
            Run x = new Run();
            check.due("fresh(0, " + n + ")", x.fresh(0, n), true);
            check.due("states", x.count(0, 0), n);
            for (int q = -1; q <= n; q++) {
                boolean there = q >= 0 && q < n;
                check.due("start of state " + q + " of " + n, x.start(0, q, 1), there);
                check.due("end of state " + q + " of " + n, x.end(0, q, 1), there);
                check.due("arc of state " + q + " of " + n, x.arc(0, q, q, 9, 1), there ? q + 1 : NONE);
            }
        }
    }

    private static void perhapsStart() {
        check.sentence("Perhaps a start (a state) with its weight");
        Run x = with("n2;f0/1;0-1:11/2;");
        check.due("no start", x.count(0, 3), NONE);
        check.due("its weight", x.count(0, 4), NONE);
        x.start(0, 0, 0);
        check.due("state 0 is one", x.count(0, 3), 0);
        check.due("the weight 0 is one", x.count(0, 4), 0);
    }

    private static void endsForSomeStates() {
        check.sentence("For some states an end weight");
        Run x = new Run();
        x.fresh(0, 16);
        check.due("none", x.count(0, 2), 0);
        for (int q = 0; q < 16; q++) {
            x.end(0, q, q == 15 ? 0 : MOST - q);
            check.due("as many as set", x.count(0, 2), q + 1);
        }
        for (int q = 0; q < 16; q++) {
            check.due("endOf(0, " + q + ")", x.endOf(0, q), q == 15 ? 0 : MOST - q);
        }
    }

    private static void sixtyFourArcs() {
        check.sentence("At most 64 arcs");
        Run x = new Run();
        x.fresh(0, 16);
        for (int k = 0; k < 64; k++) {
            check.due("arc " + k, x.arc(0, k % 16, 15 - k % 16, 63 - k, k), k + 1);
        }
        check.due("the 65th", x.arc(0, 0, 0, 0, 0), FULL);
        check.due("there are", x.count(0, 1), 64);
        check.due("arc 63 is there", x.part(0, 63, 0), 15);
        check.due("arc 64 is not", x.part(0, 64, 0), NONE);
    }

    private static void labels() {
        check.sentence("Two labels in and out (0 .. 7; 0 is empty)");
        for (int labels : new int[] {0, 7, 8, 56, 63}) {
            Run x = with("n1;");
            check.due("labels " + labels, x.arc(0, 0, 0, labels, 0), 1);
            check.due("in of " + labels, x.part(0, 0, 2), labels / 8);
            check.due("out of " + labels, x.part(0, 0, 3), labels % 8);
        }
    }

    private static void noTwoTheSame() {
        check.sentence("No two have the same from, in, out and to");
        Run x = with("n2;0-0:11/5;");
        check.due("the same, weight and all", x.arc(0, 0, 0, 9, 5), 1);
        check.due("another weight is no other arc", x.arc(0, 0, 0, 9, 6), 1);
        check.due("another from is", x.arc(0, 1, 0, 9, 5), 2);
        check.due("another to is", x.arc(0, 0, 1, 9, 5), 3);
        check.due("another in is", x.arc(0, 0, 0, 17, 5), 4);
        check.due("another out is", x.arc(0, 0, 0, 10, 5), 5);
    }

    private static void weights() {
        check.sentence("Weights are 0 .. 1000000000");
        for (int w : new int[] {0, 1, MOST - 1, MOST}) {
            Run x = with("n1;");
            check.due("start of " + w, x.start(0, 0, w), true);
            check.due("end of " + w, x.end(0, 0, w), true);
            check.due("arc of " + w, x.arc(0, 0, 0, 0, w), 1);
            check.due("held", Machines.show(x, 0), "n1;s0/" + w + ";f0/" + w + ";0-0:00/" + w + ";");
        }
    }

    private static void order() {
        check.sentence("Arcs are in order: by from, then in, then out, then to");
        check.due("from before in", Machines.show(with("n2;1-0:00/1;0-1:77/2;"), 0), "n2;0-1:77/2;1-0:00/1;");
        check.due("in before out", Machines.show(with("n2;0-0:20/1;0-1:17/2;"), 0), "n2;0-1:17/2;0-0:20/1;");
        check.due("out before to", Machines.show(with("n2;0-0:12/1;0-1:11/2;"), 0), "n2;0-1:11/2;0-0:12/1;");
        check.due("then to", Machines.show(with("n2;0-1:11/1;0-0:11/2;"), 0), "n2;0-0:11/2;0-1:11/1;");
        check.due("weights do not count", Machines.show(with("n2;0-1:11/0;0-0:11/9;"), 0), "n2;0-0:11/9;0-1:11/0;");
        check.due("10 is behind 9", Machines.show(with("n11;10-0:11/1;9-10:11/2;9-9:11/3;"), 0),
            "n11;9-9:11/3;9-10:11/2;10-0:11/1;");
        check.due("the ends of all four", Machines.show(with("n16;15-15:77/1;0-0:00/2;15-0:00/3;0-15:77/4;"), 0),
            "n16;0-0:00/2;0-15:77/4;15-0:00/3;15-15:77/1;");
    }

    private static void lesserWeight() {
        check.sentence("Where an arc comes that is there already but for its weight, there is one of the lesser weight");
        Run x = with("n1;0-0:12/5;");
        check.due("a greater one", x.arc(0, 0, 0, 10, 6), 1);
        check.due("is not taken", x.part(0, 0, 4), 5);
        check.due("the same", x.arc(0, 0, 0, 10, 5), 1);
        check.due("stays", x.part(0, 0, 4), 5);
        check.due("a lesser one", x.arc(0, 0, 0, 10, 4), 1);
        check.due("is taken", x.part(0, 0, 4), 4);
        check.due("the least", x.arc(0, 0, 0, 10, 0), 1);
        check.due("is taken too", x.part(0, 0, 4), 0);
        check.due("in a text", Machines.show(with("n1;0-0:12/5;0-0:12/4;0-0:12/6;"), 0), "n1;0-0:12/4;");
    }

    private static void noStatesAtFirst() {
        check.sentence("1: All machines have no states");
        Run x = new Run();
        for (int slot = 0; slot <= 3; slot++) {
            int[] due = {0, 0, 0, NONE, NONE};
            for (int what = 0; what < 5; what++) {
                check.due("count(" + slot + ", " + what + ")", x.count(slot, what), due[what]);
            }
            check.due("start", x.start(slot, 0, 0), false);
            check.due("end", x.end(slot, 0, 0), false);
            check.due("arc", x.arc(slot, 0, 0, 0, 0), NONE);
            check.due("part", x.part(slot, 0, 0), NONE);
            check.due("endOf", x.endOf(slot, 0), NONE);
            check.due("weigh", x.weigh(slot, 0, 0), NONE);
            check.due("best", x.best(slot), NONE);
            check.due("compose", x.compose(slot, slot, slot), 0);
            check.due("bare", x.bare(slot, slot), 0);
            check.due("determine", x.determine(slot, slot), 0);
            check.due("push", x.push(slot, slot), 0);
            check.due("trim", x.trim(slot, slot), 0);
            check.due("print", x.print(slot), 3);
        }
    }

    private static void noTextAtFirst() {
        check.sentence("1: There is no text");
        Run x = new Run();
        check.due("letter(0)", x.letter(0), NONE);
        check.due("nothing can be parsed", x.parse(0), WeighedMachines.SYNTAX);
        check.due("the first character", x.feed('n', 1), 1);
    }

    private static void noPathAtFirst() {
        check.sentence("1: No best path was looked for");
        Run x = with("n1;s0/0;f0/0;0-0:11/1;");
        for (int what = 0; what < 5; what++) {
            check.due("step(0, " + what + ")", x.step(0, what), NONE);
        }
    }

    private static void freshWithoutAnything() {
        check.sentence("2: A machine of n states, without start, end weights and arcs");
        for (int n : new int[] {0, 1, 2, 16}) {
            Run x = with(TWO);
            check.due("fresh(0, " + n + ")", x.fresh(0, n), true);
            check.due("nothing but states", Machines.show(x, 0), "n" + n + ";");
        }
        Run x = with("n16;s15/1;f15/2;15-15:77/3;");
        x.fresh(0, 0);
        x.fresh(0, 16);
        check.due("nothing comes back", Machines.show(x, 0), "n16;");
    }

    private static void freshNoSlot() {
        check.sentence("2: false when there is no such slot");
        Run x = with(TWO);
        for (int slot : NO_SLOTS) {
            check.due("fresh(" + slot + ", 1)", x.fresh(slot, 1), false);
        }
    }

    private static void freshNoSize() {
        check.sentence("2: false when n is not 0 .. 16");
        Run x = with(TWO);
        for (int n : new int[] {-1, 17, 18, 32, LOWEST, HIGHEST}) {
            check.due("fresh(0, " + n + ")", x.fresh(0, n), false);
        }
        check.due("fresh(0, 0)", x.fresh(0, 0), true);
        check.due("fresh(0, 16)", x.fresh(0, 16), true);
    }

    private static void startInPlace() {
        check.sentence("3: The start is q, with the weight w, in place of the one before");
        Run x = with("n3;s2/4;");
        check.due("start(0, 0, 9)", x.start(0, 0, 9), true);
        check.due("it alone", Machines.show(x, 0), "n3;s0/9;");
        check.due("start(0, 0, 0)", x.start(0, 0, 0), true);
        check.due("a lesser weight", Machines.show(x, 0), "n3;s0/0;");
        check.due("start(0, 0, MOST)", x.start(0, 0, MOST), true);
        check.due("a greater weight", Machines.show(x, 0), "n3;s0/1000000000;");
    }

    private static void startNoSlot() {
        check.sentence("3: false when there is no such slot");
        Run x = with(TWO);
        for (int slot : NO_SLOTS) {
            check.due("start(" + slot + ", 0, 0)", x.start(slot, 0, 0), false);
        }
    }

    private static void startNoState() {
        check.sentence("3: false when there is no such state");
        Run x = with(TWO);
        for (int q : new int[] {-1, 2, 15, 16, LOWEST, HIGHEST}) {
            check.due("start(0, " + q + ", 0)", x.start(0, q, 0), false);
        }
        check.due("of no states", x.start(1, 0, 0), false);
        x.fresh(0, 16);
        check.due("of 16", x.start(0, 16, 0), false);
    }

    private static void startNoWeight() {
        check.sentence("3: false when w is no weight");
        Run x = with(TWO);
        for (int w : NO_WEIGHTS) {
            check.due("start(0, 0, " + w + ")", x.start(0, 0, w), false);
        }
    }

    private static void endTaken() {
        check.sentence("4: The end weight of q is w, or it has none (w = -1)");
        Run x = with("n2;f0/5;f1/6;");
        check.due("a greater one", x.end(0, 0, 7), true);
        check.due("is in place", Machines.show(x, 0), "n2;f0/7;f1/6;");
        check.due("a lesser one", x.end(0, 0, 0), true);
        check.due("is in place too", Machines.show(x, 0), "n2;f0/0;f1/6;");
        check.due("none", x.end(0, 0, -1), true);
        check.due("none there", Machines.show(x, 0), "n2;f1/6;");
        check.due("none again", x.end(0, 0, -1), true);
        check.due("the count", x.count(0, 2), 1);
    }

    private static void endNoSlot() {
        check.sentence("4: false when there is no such slot");
        Run x = with(TWO);
        for (int slot : NO_SLOTS) {
            check.due("end(" + slot + ", 0, 0)", x.end(slot, 0, 0), false);
            check.due("end(" + slot + ", 0, -1)", x.end(slot, 0, -1), false);
        }
    }

    private static void endNoState() {
        check.sentence("4: false when there is no such state");
        Run x = with(TWO);
        for (int q : new int[] {-1, 2, 15, 16, LOWEST, HIGHEST}) {
            check.due("end(0, " + q + ", 0)", x.end(0, q, 0), false);
            check.due("end(0, " + q + ", -1)", x.end(0, q, -1), false);
        }
        check.due("of no states", x.end(1, 0, 0), false);
        x.fresh(0, 16);
        check.due("of 16", x.end(0, 16, 0), false);
    }

    private static void endNoWeight() {
        check.sentence("4: false when w is neither");
        Run x = with(TWO);
        for (int w : new int[] {-2, -MOST, MOST + 1, LOWEST, HIGHEST}) {
            check.due("end(0, 0, " + w + ")", x.end(0, 0, w), false);
        }
    }

    private static void arcAnswers() {
        check.sentence("5: labels is 8 * in + out. Answers how many arcs there are then");
        Run x = with("n2;");
        check.due("the first", x.arc(0, 1, 0, 8 * 7 + 0, 3), 1);
        check.due("the second", x.arc(0, 0, 1, 8 * 0 + 7, 4), 2);
        check.due("one that is there", x.arc(0, 1, 0, 8 * 7 + 0, 2), 2);
        check.due("the arcs", Machines.show(x, 0), "n2;0-1:07/4;1-0:70/2;");
        check.due("of another machine", x.arc(1, 0, 0, 0, 0), NONE);
    }

    private static void arcNoSlot() {
        check.sentence("5: NONE when there is no such slot");
        Run x = with(TWO);
        for (int slot : NO_SLOTS) {
            check.due("arc(" + slot + ", 0, 0, 0, 0)", x.arc(slot, 0, 0, 0, 0), NONE);
        }
    }

    private static void arcNoState() {
        check.sentence("5: NONE when there is no such state");
        Run x = with(TWO);
        for (int q : new int[] {-1, 2, 15, 16, LOWEST, HIGHEST}) {
            check.due("from " + q, x.arc(0, q, 0, 0, 0), NONE);
            check.due("to " + q, x.arc(0, 0, q, 0, 0), NONE);
        }
        check.due("of no states", x.arc(1, 0, 0, 0, 0), NONE);
        x.fresh(0, 16);
        check.due("from 16", x.arc(0, 16, 0, 0, 0), NONE);
        check.due("to 16", x.arc(0, 0, 16, 0, 0), NONE);
    }

    private static void arcNoLabels() {
        check.sentence("5: NONE when labels is not 0 .. 63");
        Run x = with(TWO);
        for (int labels : new int[] {-1, -8, 64, 72, LOWEST, HIGHEST}) {
            check.due("labels " + labels, x.arc(0, 0, 0, labels, 0), NONE);
        }
        check.due("labels 0", x.arc(0, 0, 0, 0, 0), 2);
        check.due("labels 63", x.arc(0, 0, 0, 63, 0), 3);
    }

    private static void arcNoWeight() {
        check.sentence("5: NONE when w is no weight");
        Run x = with(TWO);
        for (int w : NO_WEIGHTS) {
            check.due("w = " + w, x.arc(0, 0, 0, 0, w), NONE);
            check.due("w = " + w + " for one that is there", x.arc(0, 0, 1, 10, w), NONE);
        }
        check.due("it stays", x.part(0, 0, 4), 3);
    }

    private static void arcFull() {
        check.sentence("5: FULL when there would be 65");
        Run x = with(Machines.allPairs(3, 7).replace("0-0:", "1-1:"));
        check.due("a 65th before the others", x.arc(0, 0, 0, 0, 0), FULL);
        check.due("a 65th among them", x.arc(0, 1, 0, 30, 0), FULL);
        check.due("a 65th behind them", x.arc(0, 2, 2, 63, MOST), FULL);
        check.due("one that is there, lesser", x.arc(0, 1, 1, 30, 6), 64);
        check.due("is lesser then", x.part(0, 30, 4), 6);
        check.due("one that is there, greater", x.arc(0, 1, 1, 30, 8), 64);
        check.due("is as it was", x.part(0, 30, 4), 6);
        check.due("NONE where it is both", x.arc(0, 0, 1, 30, -1), NONE);
        check.due("NONE where there is no state", x.arc(0, 3, 1, 30, 0), NONE);
        check.due("another slot has room", x.fresh(1, 1) ? x.arc(1, 0, 0, 0, 0) : NONE, 1);
        x.fresh(0, 2);
        check.due("a fresh one has room", x.arc(0, 0, 1, 30, 0), 1);
    }

    private static void countNoSlot() {
        check.sentence("14: NONE when there is no such slot");
        Run x = with(TWO);
        for (int slot : NO_SLOTS) {
            for (int what = 0; what < 5; what++) {
                check.due("count(" + slot + ", " + what + ")", x.count(slot, what), NONE);
            }
        }
    }

    private static void countNoWhat() {
        check.sentence("14: NONE when there is no such what");
        Run x = with(TWO);
        for (int what : new int[] {-1, 5, 6, LOWEST, HIGHEST}) {
            check.due("count(0, " + what + ")", x.count(0, what), NONE);
        }
        int[] due = {2, 1, 1, 1, 5};
        for (int what = 0; what < 5; what++) {
            check.due("count(0, " + what + ")", x.count(0, what), due[what]);
        }
    }

    private static void countNoStart() {
        check.sentence("14: (3, 4) NONE when there is no start");
        Run x = with("n2;f0/3;0-1:11/1;");
        check.due("count(0, 3)", x.count(0, 3), NONE);
        check.due("count(0, 4)", x.count(0, 4), NONE);
        x.start(0, 1, MOST);
        check.due("count(0, 3) of one", x.count(0, 3), 1);
        check.due("count(0, 4) of one", x.count(0, 4), MOST);
        x.fresh(0, 2);
        check.due("count(0, 3) of a fresh one", x.count(0, 3), NONE);
        check.due("count(0, 4) of a fresh one", x.count(0, 4), NONE);
        check.due("count(1, 3) of no states", x.count(1, 3), NONE);
    }

    private static void partNone() {
        check.sentence("15: NONE when there is none");
        Run x = with("n2;0-1:12/3;1-0:34/5;");
        int[] last = {1, 0, 3, 4, 5};
        for (int what = 0; what < 5; what++) {
            check.due("the last arc's " + what, x.part(0, 1, what), last[what]);
            for (int k : new int[] {-1, 2, 63, 64, LOWEST, HIGHEST}) {
                check.due("part(0, " + k + ", " + what + ")", x.part(0, k, what), NONE);
            }
            check.due("of no states", x.part(1, 0, what), NONE);
            for (int slot : NO_SLOTS) {
                check.due("part(" + slot + ", 0, " + what + ")", x.part(slot, 0, what), NONE);
            }
        }
        for (int what : new int[] {-1, 5, LOWEST, HIGHEST}) {
            check.due("part(0, 0, " + what + ")", x.part(0, 0, what), NONE);
        }
        x.fresh(0, 2);
        check.due("of a fresh one", x.part(0, 0, 0), NONE);
    }

    private static void endOfNone() {
        check.sentence("16: NONE when there is no such slot or state, or it has none");
        Run x = with("n2;f0/0;");
        check.due("the weight 0 is one", x.endOf(0, 0), 0);
        check.due("it has none", x.endOf(0, 1), NONE);
        for (int q : new int[] {-1, 2, 15, 16, LOWEST, HIGHEST}) {
            check.due("endOf(0, " + q + ")", x.endOf(0, q), NONE);
        }
        check.due("of no states", x.endOf(1, 0), NONE);
        for (int slot : NO_SLOTS) {
            check.due("endOf(" + slot + ", 0)", x.endOf(slot, 0), NONE);
        }
        Machines.set(x, 0, "n16;f15/9;");
        check.due("state 15", x.endOf(0, 15), 9);
        x.fresh(0, 15);
        check.due("a state that was", x.endOf(0, 15), NONE);
    }
}
