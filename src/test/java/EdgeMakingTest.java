/** The edges of promises 6 to 10, and of the terms on what calls make: a test for each sentence. */
public final class EdgeMakingTest {
    private static final int NONE = WeighedMachines.NONE;
    private static final String UNFIT = "" + WeighedMachines.UNFIT;
    private static final int[] NO_SLOTS = {-1, 4, -4, 5, 256, Integer.MIN_VALUE, Integer.MAX_VALUE};
    private static final String ONE = "n2;s0/1;f1/2;0-1:12/3;";
    private static final String OTHER = "n2;s1/10;f0/20;1-0:21/30;";
    private static final Check check = new Check();
    private static final Made made = new Made(check);

    public static void main(String[] args) {
        composeToldLast();
        bareToldLast();
        determineToldLast();
        pushToldLast();
        trimToldLast();
        composeFound();
        composeNoStart();
        composeMatches();
        composeBothEmpty();
        composeFirstAlone();
        composeSecondAlone();
        composeEnds();
        composeNoSlot();
        bareEmptySteps();
        bareNoSteps();
        bareSteps();
        bareEnds();
        bareSameStatesAndStart();
        bareNoSlot();
        determineNoSlot();
        determineIn();
        determineOut();
        determineRound();
        determineUnfitBeforeFull();
        determineNoStart();
        determineLabels();
        determineSame();
        determineEnds();
        determineFound();
        pushStart();
        pushLeftOut();
        pushEnds();
        pushNoSlot();
        trimOnPaths();
        trimOrder();
        trimNone();
        trimNoSlot();
        greatest();
        check.finish();
    }

    private static Run filled() {
        Run x = new Run();
        Machines.set(x, 0, ONE);
        Machines.set(x, 1, OTHER);
        Machines.set(x, 2, "n3;s2/7;f1/8;");
        Machines.set(x, 3, "n1;s0/5;f0/6;0-0:11/4;");
        return x;
    }

    private static void composeToldLast() {
        check.sentence("6: Takes the place of the machine in the slot told last (which may be one of the others told)");
        String due = "n2;s0/11;f1/22;0-1:11/33;";
        String twice = "n1;s0/2;";
        int[][] told = {{0, 1, 2}, {0, 1, 3}, {0, 1, 0}, {0, 1, 1}, {0, 0, 0}, {0, 0, 1}, {0, 0, 3}};
        for (int[] slots : told) {
            Run x = filled();
            String[] all = Machines.all(x).split("\n", -1);
            all[slots[2]] = slots[1] == 0 ? twice : due;
            String call = "compose(" + slots[0] + ", " + slots[1] + ", " + slots[2] + ")";
            check.due(call, x.compose(slots[0], slots[1], slots[2]), slots[1] == 0 ? 1 : 2);
            check.due("all after " + call, Machines.all(x), String.join("\n", all));
        }
    }

    private static void toldLast(String given, String due, java.util.function.BiConsumer<Run, int[]> call) {
        for (int[] slots : new int[][] {{0, 0}, {0, 1}, {0, 2}, {0, 3}, {3, 3}, {3, 0}}) {
            Run x = filled();
            Machines.set(x, slots[0], given);
            String[] all = Machines.all(x).split("\n", -1);
            all[slots[1]] = due;
            call.accept(x, slots);
            check.due("all after slots " + slots[0] + " and " + slots[1], Machines.all(x), String.join("\n", all));
        }
    }

    private static void bareToldLast() {
        check.sentence("7: Takes the place of the machine in the slot told last (which may be the other one told)");
        toldLast("n2;s0/1;f1/2;0-1:00/3;1-1:11/4;", "n2;s0/1;f0/5;f1/2;0-1:11/7;1-1:11/4;",
            (x, slots) -> check.due("bare", x.bare(slots[0], slots[1]), 2));
    }

    private static void determineToldLast() {
        check.sentence("8: Takes the place of the machine in the slot told last (which may be the other one told)");
        toldLast("n4;s3/1;f0/2;3-0:11/3;3-1:11/4;1-0:22/5;", "n3;s0/1;f1/2;f2/2;0-1:11/3;1-2:22/6;",
            (x, slots) -> check.due("determine", x.determine(slots[0], slots[1]), 3));
    }

    private static void pushToldLast() {
        check.sentence("9: Takes the place of the machine in the slot told last (which may be the other one told)");
        toldLast("n2;s0/1;f1/2;0-1:12/3;", "n2;s0/6;f1/0;0-1:12/0;",
            (x, slots) -> check.due("push", x.push(slots[0], slots[1]), 1));
    }

    private static void trimToldLast() {
        check.sentence("10: Takes the place of the machine in the slot told last (which may be the other one told)");
        toldLast("n3;s2/1;f1/2;2-1:12/3;0-1:11/4;", "n2;s1/1;f0/2;1-0:12/3;",
            (x, slots) -> check.due("trim", x.trim(slots[0], slots[1]), 2));
    }

    private static void composeFound() {
        check.sentence("6: States that are found are numbered as they are found, the first one 0");
        check.due("the first one is 0", made.composed("n9;s8/1;f8/2;", "n7;s6/3;f6/4;"), "n1;s0/4;f0/6;");
        check.due("in the order of the arcs of the first",
            made.composed("n4;s3/0;f0/1;f1/2;f2/3;3-2:12/0;3-1:13/0;3-0:14/0;", "n1;s0/0;f0/0;0-0:21/0;0-0:32/0;0-0:43/0;"),
            "n4;s0/0;f1/3;f2/2;f3/1;0-1:11/0;0-2:12/0;0-3:13/0;");
        check.due("then of the second",
            made.composed("n1;s0/0;f0/0;0-0:12/0;", "n4;s3/0;f0/1;f1/2;f2/3;3-2:21/0;3-1:22/0;3-0:23/0;"),
            "n4;s0/0;f1/3;f2/2;f3/1;0-1:11/0;0-2:12/0;0-3:13/0;");
        check.due("labels, both empty, the filter 1, the filter 2",
            made.composed("n5;s0/0;f1/1;f2/2;f3/3;0-1:70/0;0-2:11/0;", "n5;s0/0;f0/0;f1/10;f2/20;0-1:07/0;0-2:11/0;"),
            "n5;s0/0;f1/22;f2/11;f3/1;0-4:07/0;0-1:11/0;0-3:70/0;0-2:77/0;");
        check.due("by the number of the state that they come from",
            made.composed("n5;s0/0;f3/3;f4/4;0-1:11/0;0-2:22/0;1-4:22/0;2-3:11/0;", "n1;s0/0;f0/0;0-0:11/0;0-0:22/0;"),
            "n5;s0/0;f3/4;f4/3;0-1:11/0;0-2:22/0;1-3:22/0;2-4:11/0;");
    }

    private static void composeNoStart() {
        check.sentence("6: No state when one has no start");
        check.due("the first", made.composed("n2;f1/2;0-1:12/3;", OTHER), "n0;");
        check.due("the second", made.composed(ONE, "n2;f0/20;1-0:21/30;"), "n0;");
        check.due("both", made.composed("n2;f1/2;", "n2;f0/20;"), "n0;");
        check.due("no states at all", made.composed("n0;", "n0;"), "n0;");
        check.due("the first has no states", made.composed("n0;", OTHER), "n0;");
        check.due("the second has no states", made.composed(ONE, "n0;"), "n0;");
    }

    private static void composeMatches() {
        check.sentence("6: For each arc of p with an out that is not 0, and each arc of q with this label in");
        check.due("label 7", made.composed("n1;s0/0;0-0:17/1;", "n1;s0/0;0-0:71/2;"), "n1;s0/0;0-0:11/3;");
        check.due("label 1", made.composed("n1;s0/0;0-0:71/1;", "n1;s0/0;0-0:17/2;"), "n1;s0/0;0-0:77/3;");
        check.due("other labels", made.composed("n1;s0/0;0-0:12/1;0-0:14/1;", "n1;s0/0;0-0:33/2;0-0:55/1;0-0:11/1;"),
            "n1;s0/0;");
        check.due("the labels beside it", made.composed("n1;s0/0;0-0:13/1;", "n2;s0/0;0-0:40/2;0-1:40/2;0-1:27/2;0-0:27/2;"),
            "n1;s0/0;");
        check.due("in 0 and out 0", made.composed("n1;s0/0;0-0:03/1;", "n1;s0/0;0-0:30/2;"), "n1;s0/0;0-0:00/3;");
        check.due("arcs of other states", made.composed("n2;s0/0;1-1:11/1;", "n2;s0/0;1-1:11/2;0-0:11/2;"), "n1;s0/0;");
        check.due("the last states", made.composed("n16;s15/0;15-15:11/1;", "n16;s15/0;15-15:11/2;"), "n1;s0/0;0-0:11/3;");
        check.due("to the filter 0, from the filter 1",
            made.composed("n3;s0/0;0-1:10/1;1-2:22/2;", "n3;s0/0;f2/9;0-1:22/4;1-2:03/8;"),
            "n4;s0/0;0-1:10/1;1-2:22/6;2-3:03/8;");
        check.due("to the filter 0, from the filter 2",
            made.composed("n3;s0/0;0-1:22/1;1-2:10/2;", "n3;s0/0;0-1:03/4;1-2:22/8;"),
            "n4;s0/0;0-1:03/4;1-2:22/9;2-3:10/2;");
    }

    private static void composeBothEmpty() {
        check.sentence("6: When f is 0: likewise for each arc of p with out 0 and each arc of q with in 0");
        check.due("when f is 0", made.composed("n2;s0/0;f1/0;0-1:10/1;", "n2;s0/0;f1/0;0-1:02/2;"),
            "n4;s0/0;f1/0;0-3:02/2;0-2:10/1;0-1:12/3;");
        check.due("not when it is 1 or 2", made.composed("n1;s0/0;0-0:10/1;", "n1;s0/0;0-0:02/2;"),
            "n3;s0/0;0-2:02/2;0-1:10/1;0-0:12/3;1-1:10/1;2-2:02/2;");
        check.due("empty steps to state 0", made.composed("n2;s1/0;1-0:00/1;0-0:00/8;", "n2;s1/0;1-0:00/2;0-0:00/16;"),
            "n6;s0/0;0-1:00/3;0-2:00/1;0-3:00/2;1-1:00/24;1-4:00/8;1-5:00/16;2-2:00/8;3-3:00/16;4-4:00/8;5-5:00/16;");
    }

    private static void composeFirstAlone() {
        check.sentence("6: When f is not 2: for each arc of p with out 0: to its end, q, and the filter 1");
        check.due("when f is 0 and 1", made.composed("n3;s0/0;0-1:10/1;1-2:20/2;", "n1;s0/0;f0/0;"),
            "n3;s0/0;0-1:10/1;1-2:20/2;");
        check.due("not when it is 2", made.composed("n2;s0/0;0-1:10/1;", "n2;s0/0;f1/0;0-1:02/2;"),
            "n4;s0/0;0-3:02/2;0-2:10/1;0-1:12/3;");
        check.due("to the last state, with the last in", made.composed("n16;s0/0;0-15:70/1;", "n1;s0/0;"), "n2;s0/0;0-1:70/1;");
        check.due("not with out 1", made.composed("n2;s0/0;0-0:01/1;0-1:11/1;", "n1;s0/0;"), "n1;s0/0;");
        check.due("not of another state", made.composed("n3;s1/0;0-2:00/1;2-0:00/1;", "n1;s0/0;"), "n1;s0/0;");
        check.due("out 0 alone, in 0 too", made.composed("n2;s0/0;0-1:00/1;0-1:11/1;", "n1;s0/0;"), "n2;s0/0;0-1:00/1;");
    }

    private static void composeSecondAlone() {
        check.sentence("6: When f is not 1: for each arc of q with in 0: to p, its end, and the filter 2");
        check.due("when f is 0 and 2", made.composed("n1;s0/0;f0/0;", "n3;s0/0;0-1:01/1;1-2:02/2;"),
            "n3;s0/0;0-1:01/1;1-2:02/2;");
        check.due("not when it is 1", made.composed("n2;s0/0;f1/0;0-1:10/1;", "n2;s0/0;0-1:02/2;"),
            "n4;s0/0;0-3:02/2;0-2:10/1;0-1:12/3;");
        check.due("to the last state, with the last out", made.composed("n1;s0/0;", "n16;s0/0;0-15:07/1;"), "n2;s0/0;0-1:07/1;");
        check.due("not with in 1", made.composed("n1;s0/0;", "n2;s0/0;0-0:10/1;0-1:10/1;0-0:11/1;"), "n1;s0/0;");
        check.due("in 0 alone, out 0 too", made.composed("n1;s0/0;", "n2;s0/0;0-1:00/1;0-1:11/1;"), "n2;s0/0;0-1:00/1;");
    }

    private static void composeEnds() {
        check.sentence("6: A triple whose two states have end weights has their sum");
        check.due("both", made.composed("n1;s0/0;f0/1;", "n1;s0/0;f0/2;"), "n1;s0/0;f0/3;");
        check.due("both 0", made.composed("n1;s0/0;f0/0;", "n1;s0/0;f0/0;"), "n1;s0/0;f0/0;");
        check.due("the first alone", made.composed("n1;s0/0;f0/1;", "n1;s0/0;"), "n1;s0/0;");
        check.due("the second alone", made.composed("n1;s0/0;", "n1;s0/0;f0/2;"), "n1;s0/0;");
        check.due("with each filter", made.composed("n1;s0/0;f0/1;0-0:10/1;", "n1;s0/0;f0/2;0-0:02/2;"),
            "n3;s0/0;f0/3;f1/3;f2/3;0-2:02/2;0-1:10/1;0-0:12/3;1-1:10/1;2-2:02/2;");
    }

    private static void composeNoSlot() {
        check.sentence("6: NONE when a, b or c is no slot");
        Run x = filled();
        for (int no : NO_SLOTS) {
            check.due("compose(" + no + ", 1, 2)", x.compose(no, 1, 2), NONE);
            check.due("compose(0, " + no + ", 2)", x.compose(0, no, 2), NONE);
            check.due("compose(0, 1, " + no + ")", x.compose(0, 1, no), NONE);
        }
    }

    private static void bareEmptySteps() {
        check.sentence("7: Empty steps (arcs with in and out 0)");
        check.due("in 0 alone is none", made.bared("n2;f1/1;0-1:01/2;1-0:10/3;"), "n2;f1/1;0-1:01/2;1-0:10/3;");
        check.due("both 0 is one", made.bared("n2;f1/1;0-1:00/2;1-0:10/3;"), "n2;f0/3;f1/1;0-0:10/5;1-0:10/3;");
    }

    private static void bareNoSteps() {
        check.sentence("7: Each q that it is or comes to by empty steps, with d (0 for none)");
        check.due("no steps", made.bared("n2;f1/1;0-1:11/2;"), "n2;f1/1;0-1:11/2;");
        check.due("a step to itself", made.bared("n1;f0/1;0-0:00/5;0-0:11/2;"), "n1;f0/1;0-0:11/2;");
        check.due("a ring of steps", made.bared("n2;f0/1;0-1:00/5;1-0:00/5;0-0:11/2;"), "n2;f0/1;f1/6;0-0:11/2;1-0:11/7;");
    }

    private static void bareSteps() {
        check.sentence("7: With d the least weight of these");
        check.due("two ways", made.bared("n3;0-2:00/9;0-1:00/3;1-2:00/4;2-2:11/1;"), "n3;0-2:11/8;1-2:11/5;2-2:11/1;");
        StringBuilder told = new StringBuilder("n16;0-0:77/1;");
        StringBuilder due = new StringBuilder("n16;");
        for (int q = 0; q < 16; q++) {
            told.append(q == 0 ? "" : q + "-" + (q - 1) + ":00/2;");
            due.append(q + "-0:77/" + (1 + 2 * q) + ";");
        }
        check.due("fifteen steps, against the order", made.bared(told.toString()), due.toString());
        check.due("the last step counts, behind a label it does not", made.bared("n3;f2/1;0-1:11/2;1-2:00/3;"),
            "n3;f1/4;f2/1;0-1:11/2;");
    }

    private static void bareEnds() {
        check.sentence("7: p has the least of d plus the end weights of such q");
        check.due("its own", made.bared("n2;f0/4;f1/1;0-1:00/4;"), "n2;f0/4;f1/1;");
        check.due("a lesser one", made.bared("n2;f0/6;f1/1;0-1:00/4;"), "n2;f0/5;f1/1;");
        check.due("none of such q has one", made.bared("n3;f2/1;0-1:00/4;"), "n3;f2/1;");
    }

    private static void bareSameStatesAndStart() {
        check.sentence("7: The same states and start");
        check.due("states that nothing comes to", made.bared("n16;s15/7;"), "n16;s15/7;");
        check.due("no start", made.bared("n3;0-1:00/1;"), "n3;");
        check.due("no states", made.bared("n0;"), "n0;");
    }

    private static void bareNoSlot() {
        check.sentence("7: NONE when a or c is no slot");
        Run x = filled();
        for (int no : NO_SLOTS) {
            check.due("bare(" + no + ", 1)", x.bare(no, 1), NONE);
            check.due("bare(0, " + no + ")", x.bare(0, no), NONE);
        }
    }

    private static void determineNoSlot() {
        check.sentence("8: NONE when a or c is no slot");
        Run x = filled();
        for (int no : NO_SLOTS) {
            check.due("determine(" + no + ", 2)", x.determine(no, 2), NONE);
            check.due("determine(2, " + no + ")", x.determine(2, no), NONE);
            check.due("of an unfit one, determine(3, " + no + ")", x.determine(3, no), NONE);
        }
    }

    private static void determineIn() {
        check.sentence("8: UNFIT when an arc of a has in 0");
        check.due("in 0", made.determined("n2;s0/0;0-1:01/0;"), UNFIT);
        check.due("both 0", made.determined("n2;s0/0;0-1:00/0;"), UNFIT);
        check.due("off the paths", made.determined("n3;s0/0;f0/1;1-2:00/0;"), UNFIT);
        check.due("without a start", made.determined("n2;0-1:00/0;"), UNFIT);
        check.due("the last of many", made.determined("n3;s0/0;0-1:11/0;0-1:77/0;1-2:00/0;"), UNFIT);
    }

    private static void determineOut() {
        check.sentence("8: UNFIT when an arc of a has an out that is not its in");
        check.due("out 0", made.determined("n2;s0/0;0-1:10/0;"), UNFIT);
        check.due("a lesser out", made.determined("n2;s0/0;0-1:76/0;"), UNFIT);
        check.due("a greater out", made.determined("n2;s0/0;0-1:12/0;"), UNFIT);
        check.due("off the paths", made.determined("n3;s0/0;f0/1;1-2:12/0;"), UNFIT);
        check.due("without a start", made.determined("n2;0-1:12/0;"), UNFIT);
        check.due("the same", made.determined("n2;s0/0;0-1:11/0;0-1:77/0;"), "n2;s0/0;0-1:11/0;0-1:77/0;");
    }

    private static void determineRound() {
        check.sentence("8: UNFIT when some state (on a path or not) can be come to from itself along arcs");
        check.due("by one arc", made.determined("n1;s0/0;f0/0;0-0:11/0;"), UNFIT);
        check.due("by two", made.determined("n2;s0/0;f0/0;0-1:11/0;1-0:22/0;"), UNFIT);
        check.due("behind the start", made.determined("n3;s0/0;f0/0;0-1:11/0;1-2:11/0;2-1:22/0;"), UNFIT);
        check.due("before the start", made.determined("n3;s2/0;f2/0;0-1:11/0;1-0:11/0;1-2:22/0;"), UNFIT);
        check.due("apart", made.determined("n4;s0/0;f1/0;0-1:11/0;2-3:11/0;3-2:22/0;"), UNFIT);
        check.due("without a start", made.determined("n1;0-0:11/0;"), UNFIT);
        StringBuilder ring = new StringBuilder("n16;s0/0;");
        for (int q = 0; q < 15; q++) {
            ring.append(q + "-" + (q + 1) + ":11/0;");
        }
        check.due("by none of sixteen", made.determined(ring.toString()), ring.toString());
        check.due("by all sixteen", made.determined(ring + "15-0:11/0;"), UNFIT);
        check.due("by the last two", made.determined(ring + "15-14:11/0;"), UNFIT);
        check.due("two ways to one state are none", made.determined("n4;s0/0;0-1:11/0;0-2:22/0;1-3:11/0;2-3:11/0;"),
            "n4;s0/0;0-1:11/0;0-2:22/0;1-3:11/0;2-3:11/0;");
    }

    private static void determineUnfitBeforeFull() {
        check.sentence("8: UNFIT comes before FULL");
        check.due("both", made.determined("n6;s0/0;0-1:11/0;0-2:11/1000000000;2-3:22/1;4-5:12/0;"), UNFIT);
    }

    private static void determineNoStart() {
        check.sentence("8: No state when there is none");
        check.due("no start", made.determined("n3;f0/1;0-1:11/2;"), "n0;");
        check.due("no states", made.determined("n0;"), "n0;");
        check.due("a start alone", made.determined("n3;s2/6;"), "n1;s0/6;");
    }

    private static void determineLabels() {
        check.sentence("8: For each label 1 .. 7 that an arc of a state in it has");
        check.due("1 and 7", made.determined("n3;s0/0;0-2:77/1;0-1:11/2;f1/3;f2/4;"),
            "n3;s0/0;f1/3;f2/4;0-1:11/2;0-2:77/1;");
        check.due("not those of other states", made.determined("n3;s0/0;1-2:77/1;"), "n1;s0/0;");
        check.due("the least of the sums", made.determined("n3;s0/0;0-1:11/5;0-2:11/3;f1/1;f2/9;"),
            "n2;s0/0;f1/3;0-1:11/3;");
    }

    private static void determineSame() {
        check.sentence("8: Two sets with the same states and rests are one");
        check.due("the same", made.determined("n3;s0/0;0-1:11/0;0-2:11/1;0-1:22/7;0-2:22/8;"),
            "n2;s0/0;0-1:11/0;0-1:22/7;");
        check.due("other rests", made.determined("n3;s0/0;0-1:11/0;0-2:11/1;0-1:22/0;0-2:22/2;"),
            "n3;s0/0;0-1:11/0;0-2:22/0;");
        check.due("a state less", made.determined("n3;s0/0;0-1:11/0;0-2:11/1;0-1:22/0;"), "n3;s0/0;0-1:11/0;0-2:22/0;");
        check.due("state 0 less", made.determined("n3;s2/0;2-1:11/0;2-0:11/1;2-1:22/0;"), "n3;s0/0;0-1:11/0;0-2:22/0;");
        check.due("state 15 less", made.determined("n16;s2/0;2-1:11/0;2-15:11/0;2-1:22/0;"),
            "n3;s0/0;0-1:11/0;0-2:22/0;");
        check.due("rests the other way round", made.determined("n3;s0/0;0-1:11/0;0-2:11/1;0-1:22/1;0-2:22/0;"),
            "n3;s0/0;0-1:11/0;0-2:22/0;");
        check.due("the same to by two ways has the least rest",
            made.determined("n4;s0/0;0-1:11/0;0-2:11/1;1-3:11/5;2-3:11/2;f3/0;"), "n3;s0/0;f2/0;0-1:11/0;1-2:11/3;");
    }

    private static void determineEnds() {
        check.sentence("8: A set has the least of rest plus end weight of its states that have one, if any");
        check.due("none", made.determined("n3;s0/0;0-1:11/0;0-2:11/1;"), "n2;s0/0;0-1:11/0;");
        check.due("one", made.determined("n3;s0/0;0-1:11/0;0-2:11/1;f2/6;"), "n2;s0/0;f1/7;0-1:11/0;");
        check.due("the least of two", made.determined("n3;s0/0;0-1:11/0;0-2:11/1;f1/8;f2/6;"), "n2;s0/0;f1/7;0-1:11/0;");
        check.due("the start's", made.determined("n1;s0/3;f0/0;"), "n1;s0/3;f0/0;");
    }

    private static void determineFound() {
        check.sentence("8: States that are found are numbered as they are found, the first one 0");
        check.due("by label", made.determined("n4;s3/0;f0/4;3-0:77/0;3-1:11/0;1-2:66/0;1-0:55/0;"),
            "n4;s0/0;f2/4;0-1:11/0;0-2:77/0;1-2:55/0;1-3:66/0;");
    }

    private static void pushStart() {
        check.sentence("9: The start d(start) more, if it has one");
        check.due("it has one", made.pushed("n2;s0/1;f1/2;0-1:11/4;"), "n2;s0/7;f1/0;0-1:11/0;");
        check.due("one of 0", made.pushed("n2;s0/1;f0/0;0-1:11/4;"), "n2;s0/1;f0/0;");
        check.due("it has none", made.pushed("n3;s0/1;f2/2;0-1:11/4;2-0:11/5;"), "n3;s0/1;f2/0;");
        check.due("no start", made.pushed("n2;f1/2;0-1:11/4;"), "n2;f1/0;0-1:11/0;");
        check.due("no states", made.pushed("n0;"), "n0;");
    }

    private static void pushLeftOut() {
        check.sentence("9: Arcs from or to a state without one are left out");
        check.due("to one", made.pushed("n3;s0/0;f1/0;0-1:11/3;0-2:11/0;"), "n3;s0/3;f1/0;0-1:11/0;");
        check.due("from one to one", made.pushed("n4;s0/0;f1/0;0-1:11/3;2-3:11/0;"), "n4;s0/3;f1/0;0-1:11/0;");
        check.due("to itself", made.pushed("n2;s0/4;f1/0;0-0:11/3;"), "n2;s0/4;f1/0;");
        check.due("no end weights, no arcs", made.pushed("n2;s0/4;0-1:11/3;1-0:11/3;"), "n2;s0/4;");
        check.due("off the paths they stay", made.pushed("n3;s2/0;f1/4;0-1:11/2;1-0:22/1;"), "n3;s2/0;f1/0;0-1:11/0;1-0:22/3;");
    }

    private static void pushEnds() {
        check.sentence("9: An end weight has d(q) less");
        check.due("it is d(q)", made.pushed("n1;f0/1000000000;"), "n1;f0/0;");
        check.due("it is more", made.pushed("n2;f0/9;f1/1;0-1:11/2;"), "n2;f0/6;f1/0;0-1:11/0;");
        check.due("it is far more", made.pushed("n2;f0/1000000000;f1/0;0-1:11/0;"), "n2;f0/1000000000;f1/0;0-1:11/0;");
    }

    private static void pushNoSlot() {
        check.sentence("9: NONE when a or c is no slot");
        Run x = filled();
        for (int no : NO_SLOTS) {
            check.due("push(" + no + ", 1)", x.push(no, 1), NONE);
            check.due("push(0, " + no + ")", x.push(0, no), NONE);
        }
    }

    private static void trimOnPaths() {
        check.sentence("10: With those states alone that lie on paths");
        check.due("not one that the start does not come to", made.trimmed("n2;s0/1;f0/2;1-0:11/1;"), "n1;s0/1;f0/2;");
        check.due("not one that comes to no end", made.trimmed("n2;s0/1;f0/2;0-1:11/1;1-1:11/1;"), "n1;s0/1;f0/2;");
        check.due("not an end that is not come to", made.trimmed("n2;s0/1;f0/2;f1/3;"), "n1;s0/1;f0/2;");
        check.due("one that is gone round by", made.trimmed("n3;s0/1;f0/2;0-1:11/1;1-2:22/3;2-0:33/4;"),
            "n3;s0/1;f0/2;0-1:11/1;1-2:22/3;2-0:33/4;");
        check.due("by weights of any size", made.trimmed("n2;s0/0;f1/1000000000;0-1:00/1000000000;"),
            "n2;s0/0;f1/1000000000;0-1:00/1000000000;");
        StringBuilder chain = new StringBuilder("n16;s15/1;f0/2;");
        for (int q = 1; q < 16; q++) {
            chain.append(q + "-" + (q - 1) + ":11/3;");
        }
        check.due("all sixteen, against the order", made.trimmed(chain.toString()), chain.toString());
    }

    private static void trimOrder() {
        check.sentence("10: In their order, and the arcs between them");
        check.due("0, 2 and 4 are 0, 1 and 2", made.trimmed("n5;s4/1;f0/2;4-2:11/3;2-0:22/4;4-1:33/5;3-0:44/6;2-2:00/7;4-0:55/8;"),
            "n3;s2/1;f0/2;1-1:00/7;1-0:22/4;2-1:11/3;2-0:55/8;");
        check.due("15 alone is 0", made.trimmed("n16;s15/1;f15/2;15-15:77/3;"), "n1;s0/1;f0/2;0-0:77/3;");
    }

    private static void trimNone() {
        check.sentence("10: Without such states none at all");
        check.due("no start", made.trimmed("n2;f1/2;0-1:11/1;"), "n0;");
        check.due("no end weight", made.trimmed("n2;s0/2;0-1:11/1;"), "n0;");
        check.due("no way", made.trimmed("n2;s0/3;f1/2;1-0:11/1;"), "n0;");
        check.due("no states", made.trimmed("n0;"), "n0;");
    }

    private static void trimNoSlot() {
        check.sentence("10: NONE when a or c is no slot");
        Run x = filled();
        for (int no : NO_SLOTS) {
            check.due("trim(" + no + ", 1)", x.trim(no, 1), NONE);
            check.due("trim(0, " + no + ")", x.trim(0, no), NONE);
        }
    }

    /** 16 states one behind the other and 64 arcs: four from each to the next, of the last ones five. */
    private static String greatest(int start, int end, int weight, int fifth) {
        StringBuilder told = new StringBuilder("n16;s0/" + start + ";f15/" + end + ";");
        for (int q = 0; q < 15; q++) {
            for (int label = 1; label <= 4; label++) {
                told.append(q + "-" + (q + 1) + ":" + label + label + "/" + weight + ";");
            }
            told.append(q < 11 ? "" : q + "-" + (q + 1) + ":77/" + fifth + ";");
        }
        return told.toString();
    }

    private static void greatest() {
        check.sentence("Machines have at most 16 states and 64 arcs: so many are taken");
        String given = greatest(1, 3, 2, 9);
        String copy = "n1;s0/0;f0/0;0-0:11/0;0-0:22/0;0-0:33/0;0-0:44/0;0-0:77/0;";
        check.due("compose", made.composed(given, copy), given);
        check.due("compose the other way", made.composed(copy, given), given);
        check.due("bare", made.bared(given), given);
        check.due("determine", made.determined(given), given);
        check.due("push", made.pushed(given), greatest(34, 0, 0, 7));
        check.due("trim", made.trimmed(given), given);
    }
}
