/** What the terms say of FULL, for each call that makes a machine: a test for each sentence. */
public final class FullTest {
    private static final String FULL = "" + WeighedMachines.FULL;
    private static final int MOST = 1000000000;
    private static final Check check = new Check();
    private static final Made made = new Made(check);

    public static void main(String[] args) {
        composeStates();
        composeArcs();
        composeArcsTwice();
        composeStart();
        composeEnd();
        composeArcWeight();
        composeLesser();
        composeNotFound();
        bareArcs();
        bareArcsTwice();
        bareArcWeight();
        bareEnd();
        bareLesser();
        bareSumsDoNotWrap();
        determineStates();
        determineArcs();
        determineArcWeight();
        determineEnd();
        determineLesser();
        determineRests();
        determineSumsDoNotWrap();
        pushStart();
        pushStartHasNone();
        pushArcWeight();
        pushEndsAndArcsOff();
        pushSumsDoNotWrap();
        trimNever();
        check.finish();
    }

    /** States 0 .. n - 1 one behind the other, with the labels as told, from the start 0. */
    private static String chain(int n, String labels) {
        StringBuilder told = new StringBuilder("n" + n + ";s0/0;");
        for (int q = 0; q + 1 < n; q++) {
            told.append(q + "-" + (q + 1) + ":" + labels + "/0;");
        }
        return told.toString();
    }

    private static int arcsOf(String machine) {
        return machine.split("-", -1).length - 1;
    }

    private static void composeStates() {
        check.sentence("6: FULL when it would have more than 16 states");
        String loop = "n1;s0/0;0-0:11/0;";
        check.due("16 by a label", made.composed(chain(16, "11"), loop), chain(16, "11"));
        check.due("17 by a label and a filter", made.composed(chain(16, "11") + "15-15:10/0;", loop), FULL);
        check.due("16 by labels", made.composed(chain(4, "11") + "3-0:11/0;", chain(16, "11")), chain(16, "11"));
        check.due("16 by labels, round", made.composed(chain(4, "11") + "3-0:11/0;", chain(16, "11") + "15-0:11/0;"),
            chain(16, "11") + "15-0:11/0;");
        check.due("20 by labels", made.composed(chain(4, "11") + "3-0:11/0;", chain(5, "11") + "4-0:11/0;"), FULL);
        check.due("16 by the filter 1", made.composed(chain(16, "10"), "n1;s0/0;"), chain(16, "10"));
        check.due("17 by the filter 1", made.composed(chain(16, "10") + "15-0:10/0;", "n1;s0/0;"), FULL);
        check.due("16 by the filter 2", made.composed("n1;s0/0;", chain(16, "01")), chain(16, "01"));
        check.due("17 by the filter 2", made.composed("n1;s0/0;", chain(16, "01") + "15-0:01/0;"), FULL);
        String first = "n2;s0/0;0-1:10/0;1-1:11/0;";
        check.due("16 with both empty", made.composed(first, chain(8, "01")).substring(0, 4), "n16;");
        check.due("17 with both empty", made.composed(first, chain(8, "01").replace("n8;", "n9;") + "7-8:11/0;"), FULL);
    }

    /** As many arcs of state 1 with out 0 as told, which are there for the filters 0 and 1. */
    private static String twoWays(int arcs) {
        StringBuilder told = new StringBuilder("n6;s0/0;0-1:11/0;0-1:10/0;");
        for (int k = 0; k < arcs; k++) {
            told.append("1-" + (2 + k / 8) + ":" + k % 8 + "0/0;");
        }
        return told.toString();
    }

    /** The labels of each arc the other way round. */
    private static String turned(String machine) {
        return machine.replaceAll(":(.)(.)/", ":$2$1/");
    }

    /** Arcs of state 0 alone, with out 0, to the states 1 and 2. */
    private static String fan(int arcs) {
        StringBuilder told = new StringBuilder("n3;s0/0;");
        for (int k = 0; k < arcs; k++) {
            told.append("0-" + (1 + k / 8) + ":" + k % 8 + "0/0;");
        }
        return told.toString();
    }

    private static void composeArcs() {
        check.sentence("6: FULL when it would have more than 64 arcs");
        String more = Machines.allPairs(2, 1).replace("n2;", "n2;s0/0;").replaceAll("0-0:(0.|.0)/1;", "");
        for (int k = 0; k < 15; k++) {
            more += "0-1:" + (1 + k / 7) + (1 + k % 7) + "/1;";
        }
        String same = "n1;s0/0;";
        for (int label = 1; label <= 7; label++) {
            same += "0-0:" + label + label + "/0;";
        }
        check.due("64 by labels", arcsOf(made.composed(more, same)), 64);
        check.due("65 by labels", made.composed(more, same + "0-0:12/0;"), FULL);
        String loop = "n1;s0/0;0-0:11/0;";
        check.due("64 by the filter 1", arcsOf(made.composed(twoWays(31), loop)), 64);
        check.due("65 by the filter 1", made.composed(twoWays(31) + "0-1:21/0;", loop), FULL);
        check.due("64 by the filter 2", arcsOf(made.composed(loop, turned(twoWays(31)))), 64);
        check.due("65 by the filter 2", made.composed(loop, turned(twoWays(31) + "0-1:21/0;")), FULL);
        check.due("64 with both empty", arcsOf(made.composed(fan(4), turned(fan(12)))), 64);
        check.due("65 with both empty", made.composed(fan(5), turned(fan(10))), FULL);
    }

    private static void composeArcsTwice() {
        check.sentence("6: What comes twice is one arc of the 64");
        String full = "n2;s0/0;";
        for (int labels = 0; labels < 64; labels++) {
            full += labels % 8 == 0 ? "" : "0-0:" + labels / 8 + labels % 8 + "/1;";
        }
        String meet = "n2;s0/0;";
        for (int label = 1; label <= 7; label++) {
            for (int to = 0; to <= 1; to++) {
                meet += "0-" + to + ":" + label + "1/" + label + ";0-" + to + ":" + label + "2/" + label + ";";
                meet += "0-" + to + ":" + label + "3/" + label + ";0-" + to + ":" + label + "4/" + label + ";";
            }
        }
        String due = made.composed(full, meet);
        check.due("448 that come are 64", arcsOf(due), 64);
        check.due("each of the least weight", due.replaceAll("0-.:../2;", ""), "n2;s0/0;");
    }

    private static void composeStart() {
        check.sentence("6: FULL when the start would have a weight above 1000000000");
        check.due("at it", made.composed("n1;s0/999999999;", "n1;s0/1;"), "n1;s0/1000000000;");
        check.due("at it, by one alone", made.composed("n1;s0/0;", "n1;s0/1000000000;"), "n1;s0/1000000000;");
        check.due("above", made.composed("n1;s0/1000000000;", "n1;s0/1;"), FULL);
        check.due("far above", made.composed("n1;s0/1000000000;", "n1;s0/1000000000;"), FULL);
        check.due("no start has no weight", made.composed("n1;s0/1000000000;", "n1;"), "n0;");
    }

    private static void composeEnd() {
        check.sentence("6: FULL when an end weight would be above 1000000000");
        check.due("at it", made.composed("n1;s0/0;f0/1;", "n1;s0/0;f0/999999999;"), "n1;s0/0;f0/1000000000;");
        check.due("above", made.composed("n1;s0/0;f0/2;", "n1;s0/0;f0/999999999;"), FULL);
        check.due("far above", made.composed("n1;s0/0;f0/1000000000;", "n1;s0/0;f0/1000000000;"), FULL);
        check.due("of a later state", made.composed("n2;s0/0;f1/2;0-1:11/0;", "n1;s0/0;f0/999999999;0-0:11/0;"), FULL);
    }

    private static void composeArcWeight() {
        check.sentence("6: FULL when an arc would have a weight above 1000000000");
        check.due("at it", made.composed("n1;s0/0;0-0:11/999999999;", "n1;s0/0;0-0:11/1;"), "n1;s0/0;0-0:11/1000000000;");
        check.due("above", made.composed("n1;s0/0;0-0:11/1000000000;", "n1;s0/0;0-0:11/1;"), FULL);
        check.due("far above", made.composed("n1;s0/0;0-0:11/1000000000;", "n1;s0/0;0-0:11/1000000000;"), FULL);
        check.due("at it, both empty", made.composed("n2;s0/0;0-1:10/999999999;", "n2;s0/0;0-1:01/1;"),
            "n4;s0/0;0-3:01/1;0-2:10/999999999;0-1:11/1000000000;");
        check.due("above, both empty", made.composed("n2;s0/0;0-1:10/1000000000;", "n2;s0/0;0-1:01/1;"), FULL);
        check.due("one alone is not above", made.composed("n2;s0/0;0-1:10/1000000000;", "n1;s0/0;"),
            "n2;s0/0;0-1:10/1000000000;");
    }

    private static void composeLesser() {
        check.sentence("6: Where something comes twice, the lesser one counts");
        String a = "n1;s0/0;0-0:11/1000000000;0-0:12/4;";
        check.due("the lesser comes last", made.composed(a, "n1;s0/0;0-0:11/1;0-0:21/5;"), "n1;s0/0;0-0:11/9;");
        String b = "n1;s0/0;0-0:11/4;0-0:12/1000000000;";
        check.due("the lesser comes first", made.composed(b, "n1;s0/0;0-0:11/5;0-0:21/1;"), "n1;s0/0;0-0:11/9;");
        check.due("both are above", made.composed(a, "n1;s0/0;0-0:11/1;0-0:21/1000000000;"), FULL);
        check.due("the lesser is at it", made.composed(a, "n1;s0/0;0-0:11/1;0-0:21/999999996;"),
            "n1;s0/0;0-0:11/1000000000;");
    }

    private static void composeNotFound() {
        check.sentence("6: The weights count that it would have: not those of what is not found");
        check.due("an end", made.composed("n2;s0/0;f1/1000000000;", "n2;s0/0;f1/1;"), "n1;s0/0;");
        check.due("an arc", made.composed("n2;s0/0;1-1:11/1000000000;", "n2;s0/0;1-1:11/1;"), "n1;s0/0;");
        check.due("states", made.composed(chain(16, "11").replace("s0/", "s15/"), chain(16, "11")), "n1;s0/0;");
    }

    /** An empty step to state 1 and so many arcs of it. */
    private static String behindStep(int arcs) {
        StringBuilder told = new StringBuilder("n3;0-1:00/0;");
        for (int labels = 1; labels <= arcs; labels++) {
            told.append("1-2:" + labels / 8 + labels % 8 + "/0;");
        }
        return told.toString();
    }

    private static void bareArcs() {
        check.sentence("7: FULL when it would have more than 64 arcs");
        check.due("64", arcsOf(made.bared(behindStep(32))), 64);
        check.due("65", made.bared(behindStep(32) + "2-2:77/0;"), FULL);
        check.due("66", made.bared(behindStep(33)), FULL);
        check.due("63 and an empty step", arcsOf(made.bared(Machines.allPairs(1, 2))), 63);
    }

    private static void bareArcsTwice() {
        check.sentence("7: What comes twice is one arc of the 64");
        check.due("65 that come are 64", arcsOf(made.bared(behindStep(32) + "0-2:01/0;")), 64);
        String copies = behindStep(31).replace("n3;0-1:00/0;", "").replace("1-2:", "0-2:");
        check.due("95 that come are 64", arcsOf(made.bared(behindStep(32) + copies)), 64);
    }

    private static void bareArcWeight() {
        check.sentence("7: FULL when an arc would have a weight above 1000000000");
        check.due("at it", made.bared("n2;0-1:00/999999999;1-1:11/1;"), "n2;0-1:11/1000000000;1-1:11/1;");
        check.due("above", made.bared("n2;0-1:00/1000000000;1-1:11/1;"), FULL);
        check.due("far above", made.bared("n2;0-1:00/1000000000;1-1:11/1000000000;"), FULL);
        check.due("by two steps", made.bared("n3;0-1:00/1000000000;1-2:00/1;2-2:11/0;"), FULL);
        check.due("off the paths too", made.bared("n3;s2/0;f2/0;0-1:00/1000000000;1-1:11/1;"), FULL);
    }

    private static void bareEnd() {
        check.sentence("7: FULL when an end weight would be above 1000000000");
        check.due("at it", made.bared("n2;f1/1;0-1:00/999999999;"), "n2;f0/1000000000;f1/1;");
        check.due("above", made.bared("n2;f1/1;0-1:00/1000000000;"), FULL);
        check.due("far above", made.bared("n2;f1/1000000000;0-1:00/1000000000;"), FULL);
    }

    private static void bareLesser() {
        check.sentence("7: Where something comes twice, the lesser one counts");
        check.due("an arc, the lesser first", made.bared("n2;0-1:00/1000000000;0-1:11/8;1-1:11/1;"),
            "n2;0-1:11/8;1-1:11/1;");
        check.due("an arc, the lesser last", made.bared("n2;1-0:00/1000000000;1-0:11/8;0-0:11/1;"),
            "n2;0-0:11/1;1-0:11/8;");
        check.due("an end, the lesser first", made.bared("n2;f0/3;f1/1;0-1:00/1000000000;"), "n2;f0/3;f1/1;");
        check.due("an end, the lesser last", made.bared("n2;f0/1;f1/3;1-0:00/1000000000;"), "n2;f0/1;f1/3;");
        check.due("steps, a lesser way", made.bared("n3;f2/1;0-2:00/1000000000;0-1:00/3;1-2:00/4;"),
            "n3;f0/8;f1/5;f2/1;");
        check.due("steps to nothing", made.bared("n3;0-1:00/1000000000;1-2:00/1000000000;"), "n3;");
    }

    /** Steps from 0 on to the last state of six that weigh 2 to the power of 32 together. */
    private static final String FAR_STEPS =
        "n6;0-1:00/1000000000;1-2:00/1000000000;2-3:00/1000000000;3-4:00/1000000000;4-5:00/294967296;";

    private static void bareSumsDoNotWrap() {
        check.sentence("7: A weight far above 1000000000 is above it");
        check.due("an arc", made.bared(FAR_STEPS + "5-5:11/7;"), FULL);
        check.due("an end", made.bared(FAR_STEPS + "f5/7;"), FULL);
        check.due("an end, and lesser ones", made.bared(FAR_STEPS + "f0/8;f1/8;f2/8;f3/8;f4/8;f5/7;"),
            "n6;f0/8;f1/8;f2/8;f3/8;f4/8;f5/7;");
    }

    /** Four labels on, each with a rest of its own: 16 sets with the start and the last ones. */
    private static final String SIXTEEN_SETS = sixteenSets();

    private static String sixteenSets() {
        StringBuilder told = new StringBuilder("n16;s0/0;");
        for (int q = 0; q < 4; q++) {
            told.append(q + "-" + (q + 1) + ":11/0;" + q + "-" + (q + 1) + ":22/0;");
            told.append(q + "-" + (q + 5) + ":11/" + (1 << q) + ";");
            told.append((q + 5) + "-" + (q + 6) + ":11/0;" + (q + 5) + "-" + (q + 6) + ":22/0;");
        }
        return told.toString();
    }

    private static void determineStates() {
        check.sentence("8: FULL when it would have more than 16 states");
        check.due("a chain of 16", made.determined(chain(16, "11")), chain(16, "11"));
        check.due("16", made.determined(SIXTEEN_SETS).substring(0, 4), "n16;");
        check.due("17", made.determined(SIXTEEN_SETS + "0-10:33/0;"), FULL);
        check.due("16 and one off the paths", made.determined(SIXTEEN_SETS + "14-15:33/0;").substring(0, 4), "n16;");
    }

    /** Three labels on by seven labels each, the second one by sets with seven rests: 63 arcs. */
    private static String wide() {
        StringBuilder told = new StringBuilder("n16;s0/0;");
        for (int label = 1; label <= 7; label++) {
            String labels = ":" + label + label + "/";
            told.append("0-1" + labels + "0;0-2" + labels + label + ";1-3" + labels + "0;3-4" + labels + "0;");
        }
        return told.toString();
    }

    private static void determineArcs() {
        check.sentence("8: FULL when it would have more than 64 arcs");
        check.due("63", arcsOf(made.determined(wide())), 63);
        check.due("64", arcsOf(made.determined(wide() + "4-5:11/0;")), 64);
        check.due("65", made.determined(wide() + "4-5:11/0;4-5:22/0;"), FULL);
        check.due("65 that come are 64", arcsOf(made.determined(wide() + "4-5:11/0;4-6:11/0;")), 64);
    }

    private static void determineArcWeight() {
        check.sentence("8: FULL when an arc would have a weight above 1000000000");
        String two = "n4;s0/0;0-1:11/0;0-2:11/1;";
        check.due("at it", made.determined(two + "2-3:22/999999999;"), "n3;s0/0;0-1:11/0;1-2:22/1000000000;");
        check.due("above", made.determined(two + "2-3:22/1000000000;"), FULL);
        check.due("far above", made.determined("n4;s0/0;0-1:11/0;0-2:11/1000000000;2-3:22/1000000000;"), FULL);
    }

    private static void determineEnd() {
        check.sentence("8: FULL when an end weight would be above 1000000000");
        String two = "n3;s0/0;0-1:11/0;0-2:11/1;";
        check.due("at it", made.determined(two + "f2/999999999;"), "n2;s0/0;f1/1000000000;0-1:11/0;");
        check.due("above", made.determined(two + "f2/1000000000;"), FULL);
        check.due("far above", made.determined("n3;s0/0;0-1:11/0;0-2:11/1000000000;f2/1000000000;"), FULL);
    }

    private static void determineLesser() {
        check.sentence("8: Where something comes twice, the lesser one counts");
        String two = "n4;s0/0;0-1:11/0;0-2:11/1;";
        check.due("an end, the lesser first", made.determined(two + "f1/6;f2/1000000000;"),
            "n2;s0/0;f1/6;0-1:11/0;");
        check.due("an end, the lesser last", made.determined("n4;s0/0;0-2:11/0;0-1:11/1;f1/1000000000;f2/6;"),
            "n2;s0/0;f1/6;0-1:11/0;");
        check.due("an arc, the lesser first", made.determined(two + "1-3:22/6;2-3:22/1000000000;"),
            "n3;s0/0;0-1:11/0;1-2:22/6;");
        check.due("an arc, the lesser last", made.determined("n4;s0/0;0-2:11/0;0-1:11/1;1-3:22/1000000000;2-3:22/6;"),
            "n3;s0/0;0-1:11/0;1-2:22/6;");
    }

    private static void determineRests() {
        check.sentence("8: The weights count that it would have: a rest is none");
        check.due("a rest of 2000000000", made.determined("n5;s0/0;0-1:11/0;1-2:11/0;0-3:11/1000000000;3-4:11/1000000000;f2/0;"),
            "n3;s0/0;f2/0;0-1:11/0;1-2:11/0;");
        check.due("a rest that counts no more",
            made.determined("n6;s0/0;0-1:11/0;1-2:11/0;0-3:11/1000000000;3-4:11/1000000000;2-5:22/4;4-5:22/0;f5/3;"),
            "n4;s0/0;f3/3;0-1:11/0;1-2:11/0;2-3:22/4;");
    }

    /** Five labels on, by weights of 0 to state 5 and by 2 to the power of 32 to state 10. */
    private static String farRest() {
        StringBuilder told = new StringBuilder("n16;s0/0;");
        for (int k = 0; k < 5; k++) {
            told.append(k + "-" + (k + 1) + ":11/0;");
            told.append((k == 0 ? 0 : k + 5) + "-" + (k + 6) + ":11/" + (k < 4 ? MOST : 294967296) + ";");
        }
        return told.toString();
    }

    private static void determineSumsDoNotWrap() {
        check.sentence("8: A weight far above 1000000000 is above it, and a far rest is another rest");
        String six = "n6;s0/0;0-1:11/0;1-2:11/0;2-3:11/0;3-4:11/0;4-5:11/0;";
        check.due("a rest", made.determined(farRest()), six);
        check.due("an end", made.determined(farRest() + "f10/7;"), FULL);
        check.due("an arc", made.determined(farRest() + "10-11:22/7;"), FULL);
        check.due("the lesser end", made.determined(farRest() + "f5/8;f10/7;"), six.replace("s0/0;", "s0/0;f5/8;"));
        check.due("the lesser arc", made.determined(farRest() + "5-11:22/8;10-11:22/7;"),
            six.replace("n6;", "n7;") + "5-6:22/8;");
        check.due("another rest", made.determined(farRest() + "4-10:22/0;4-5:22/0;"),
            six.replace("n6;", "n7;") + "4-6:22/0;");
    }

    private static void pushStart() {
        check.sentence("9: FULL when the start would have a weight above 1000000000");
        check.due("at it", made.pushed("n1;s0/1;f0/999999999;"), "n1;s0/1000000000;f0/0;");
        check.due("above", made.pushed("n1;s0/1;f0/1000000000;"), FULL);
        check.due("above, by an arc", made.pushed("n2;s0/1;f1/0;0-1:11/1000000000;"), FULL);
        check.due("far above", made.pushed("n2;s0/1000000000;f1/1000000000;0-1:11/1000000000;"), FULL);
        check.due("the least onward weight counts", made.pushed("n2;s0/1;f0/5;f1/1000000000;0-1:11/0;"),
            "n2;s0/6;f0/0;f1/0;0-1:11/999999995;");
    }

    private static void pushStartHasNone() {
        check.sentence("9: The start d(start) more, if it has one");
        check.due("it has none", made.pushed("n2;s0/1000000000;f1/5;1-0:11/1;"), "n2;s0/1000000000;f1/0;");
        check.due("there is no start", made.pushed("n2;f0/1000000000;f1/1000000000;0-1:11/0;"),
            "n2;f0/0;f1/0;0-1:11/0;");
    }

    private static void pushArcWeight() {
        check.sentence("9: FULL when an arc would have a weight above 1000000000");
        check.due("at it", made.pushed("n2;f0/1;f1/2;0-1:11/999999999;"), "n2;f0/0;f1/0;0-1:11/1000000000;");
        check.due("above", made.pushed("n2;f0/1;f1/2;0-1:11/1000000000;"), FULL);
        check.due("far above", made.pushed("n2;f0/0;f1/1000000000;0-1:11/1000000000;"), FULL);
        check.due("to itself it stays", made.pushed("n1;f0/7;0-0:11/1000000000;"), "n1;f0/0;0-0:11/1000000000;");
    }

    private static void pushEndsAndArcsOff() {
        check.sentence("9: The weights count that it would have: not those of arcs that are left out");
        check.due("to a state without one", made.pushed("n3;f0/0;0-1:11/1000000000;2-0:11/4;"), "n3;f0/0;2-0:11/0;");
        check.due("far onward weights off the start",
            made.pushed("n4;s3/0;f0/1000000000;f3/5;1-0:11/1000000000;2-1:11/1000000000;"),
            "n4;s3/5;f0/0;f3/0;1-0:11/0;2-1:11/0;");
    }

    private static void pushSumsDoNotWrap() {
        check.sentence("9: A weight far above 1000000000 is above it");
        String far = FAR_STEPS.replace(":00/", ":11/") + "f5/0;";
        check.due("a start", made.pushed(far + "s0/7;"), FULL);
        check.due("a start in the midst", made.pushed(far + "s4/7;"),
            "n6;s4/294967303;f5/0;0-1:11/0;1-2:11/0;2-3:11/0;3-4:11/0;4-5:11/0;");
        check.due("an arc", made.pushed(far + "5-0:11/7;"), FULL);
        check.due("lesser onward weights", made.pushed(far + "f0/9;f1/9;f2/9;f3/9;f4/9;5-0:11/7;"),
            "n6;f0/0;f1/0;f2/0;f3/0;f4/0;f5/0;0-1:11/1000000000;1-2:11/1000000000;2-3:11/1000000000;"
            + "3-4:11/1000000000;4-5:11/294967287;5-0:11/16;");
    }

    private static void trimNever() {
        check.sentence("10: trim is never FULL");
        String most = Machines.allPairs(1, MOST).replace("n1;", "n1;s0/1000000000;f0/1000000000;");
        check.due("64 arcs of 1000000000", made.trimmed(most), most);
        String sixteen = chain(16, "11").replace("/0;", "/1000000000;").replace("0-1:", "f15/1000000000;0-1:");
        check.due("16 states", made.trimmed(sixteen), sixteen);
    }
}
