/** Promises 6 to 10: machines that are made of other ones. */
public final class MakingTest {
    private static final int NONE = WeighedMachines.NONE;
    private static final int FULL = WeighedMachines.FULL;
    private static final int UNFIT = WeighedMachines.UNFIT;
    private static final Check check = new Check();
    private static final Made made = new Made(check);

    public static void main(String[] args) {
        compose();
        composeFilters();
        composeFull();
        bare();
        bareFull();
        determine();
        determineUnfit();
        determineFull();
        push();
        pushFull();
        trim();
        noSlots();
        inPlace();
        check.finish();
    }

    private static void compose() {
        check.due("6: matched", made.composed("n2;s0/1;f1/2;0-1:12/3;", "n2;s1/10;f0/20;1-0:23/30;"),
            "n2;s0/11;f1/22;0-1:13/33;");
        check.due("6: not matched", made.composed("n2;s0/1;f1/2;0-1:12/3;", "n2;s1/10;f0/20;1-0:13/30;"), "n1;s0/11;");
        check.due("6: no first start", made.composed("n2;f1/2;0-1:12/3;", "n2;s1/10;f0/20;1-0:23/30;"), "n0;");
        check.due("6: no second start", made.composed("n2;s0/1;f1/2;0-1:12/3;", "n2;f0/20;1-0:23/30;"), "n0;");
        check.due("6: no states", made.composed("n0;", "n0;"), "n0;");
        check.due("6: the lesser of two",
            made.composed("n2;s0/0;f1/0;0-1:12/7;0-1:13/5;", "n2;s0/0;f1/0;0-1:24/1;0-1:34/2;"), "n2;s0/0;f1/0;0-1:14/7;");
        check.due("6: one end alone", made.composed("n1;s0/0;f0/1;", "n1;s0/0;"), "n1;s0/0;");
        check.due("6: label 7 of odd states",
            made.composed("n2;s1/0;1-1:17/1;", "n4;s3/0;3-2:77/1;3-3:70/2;"), "n2;s0/0;0-0:10/3;0-1:17/2;");
        check.due("6: as found",
            made.composed("n3;s2/0;2-1:21/1;2-0:11/2;", "n3;s2/0;2-0:12/1;2-1:11/2;f1/1;"),
            "n5;s0/0;0-1:11/4;0-2:12/3;0-3:21/3;0-4:22/2;");
    }

    private static void composeFilters() {
        check.due("6: both empty",
            made.composed("n2;s0/0;f1/0;0-1:10/1;", "n2;s0/0;f1/0;0-1:02/2;"),
            "n4;s0/0;f1/0;0-3:02/2;0-2:10/1;0-1:12/3;");
        check.due("6: filter 1 keeps to the first",
            made.composed("n1;s0/0;f0/0;0-0:10/1;", "n1;s0/0;f0/0;"), "n2;s0/0;f0/0;f1/0;0-1:10/1;1-1:10/1;");
        check.due("6: filter 2 keeps to the second",
            made.composed("n1;s0/0;f0/0;", "n1;s0/0;f0/0;0-0:02/1;"), "n2;s0/0;f0/0;f1/0;0-1:02/1;1-1:02/1;");
        check.due("6: a label leads back to filter 0",
            made.composed("n1;s0/0;0-0:10/1;0-0:23/2;", "n1;s0/0;0-0:04/4;0-0:35/8;"),
            "n3;s0/0;0-2:04/4;0-1:10/1;0-0:14/5;0-0:25/10;1-1:10/1;1-0:25/10;2-2:04/4;2-0:25/10;");
    }

    private static void composeFull() {
        String chain = "n16;s0/0;0-1:11/0;1-2:11/0;2-3:11/0;3-4:11/0;4-5:11/0;5-6:11/0;6-7:11/0;7-8:11/0;8-9:11/0;"
            + "9-10:11/0;10-11:11/0;11-12:11/0;12-13:11/0;13-14:11/0;14-15:11/0;";
        check.due("6: 16 states", made.composed(chain, "n1;s0/0;0-0:11/0;"), chain);
        check.due("6: 17 states", made.composed(chain + "15-0:10/0;", "n1;s0/0;0-0:11/0;"), "" + FULL);
        String writesNone = chain.replace(":11/", ":10/");
        check.due("6: 16 states by filter 1", made.composed(writesNone, "n1;s0/0;"), writesNone);
        check.due("6: 17 states by filter 1", made.composed(writesNone + "15-0:10/0;", "n1;s0/0;"), "" + FULL);
        String readsNone = chain.replace(":11/", ":01/");
        check.due("6: 16 states by filter 2", made.composed("n1;s0/0;", readsNone), readsNone);
        check.due("6: 17 states by filter 2", made.composed("n1;s0/0;", readsNone + "15-0:01/0;"), "" + FULL);
        StringBuilder same = new StringBuilder("n1;s0/0;");
        StringBuilder many = new StringBuilder("n2;s0/0;");
        for (int in = 1; in <= 7; in++) {
            for (int out = 1; out <= 7; out++) {
                many.append("0-0:" + in + out + "/1;");
                if (in <= 2 || in == 3 && out == 1) {
                    many.append("0-1:" + in + out + "/1;");
                }
            }
            same.append("0-0:" + in + in + "/0;");
        }
        check.due("6: 64 arcs", made.composed(many.toString(), same.toString()), many.toString());
        check.due("6: 65 arcs", made.composed(many.toString(), same + "0-0:12/0;"), "" + FULL);
        check.due("6: a start of 1000000000", made.composed("n1;s0/999999999;", "n1;s0/1;"), "n1;s0/1000000000;");
        check.due("6: a start above", made.composed("n1;s0/1000000000;", "n1;s0/1;"), "" + FULL);
        check.due("6: an end above", made.composed("n1;s0/0;f0/1000000000;", "n1;s0/0;f0/1;"), "" + FULL);
        check.due("6: an end above that is not found",
            made.composed("n2;s0/0;f1/1000000000;", "n2;s0/0;f1/1;"), "n1;s0/0;");
        check.due("6: an arc above", made.composed("n1;s0/0;0-0:11/1000000000;", "n1;s0/0;0-0:11/1;"), "" + FULL);
        check.due("6: an arc above, and a lesser one",
            made.composed("n1;s0/0;0-0:11/1000000000;0-0:12/4;", "n1;s0/0;0-0:11/1;0-0:21/5;"), "n1;s0/0;0-0:11/9;");
    }

    private static void bare() {
        check.due("7: none empty", made.bared("n2;s0/1;f1/2;0-1:10/3;1-0:01/4;"), "n2;s0/1;f1/2;0-1:10/3;1-0:01/4;");
        check.due("7: one empty", made.bared("n3;s0/1;f2/2;0-1:00/3;1-2:11/4;"), "n3;s0/1;f2/2;0-2:11/7;1-2:11/4;");
        check.due("7: end weights", made.bared("n3;s0/1;f1/9;f2/2;0-1:00/3;1-2:00/4;"), "n3;s0/1;f0/9;f1/6;f2/2;");
        check.due("7: the least", made.bared("n3;f1/0;0-0:00/5;0-1:00/9;0-2:00/1;2-1:00/1;0-2:11/9;1-2:11/2;"),
            "n3;f0/2;f1/0;f2/1;0-2:11/4;1-2:11/2;2-2:11/3;");
        check.due("7: a ring", made.bared("n3;s2/0;0-1:00/1;1-2:00/1;2-0:00/1;0-0:12/0;"),
            "n3;s2/0;0-0:12/0;1-0:12/2;2-0:12/1;");
        check.due("7: no start", made.bared("n1;0-0:00/5;"), "n1;");
        check.due("7: no states", made.bared("n0;"), "n0;");
    }

    private static void bareFull() {
        check.due("7: an arc above", made.bared("n2;0-1:00/1000000000;1-1:11/1;"), "" + FULL);
        check.due("7: not above", made.bared("n2;0-1:00/999999999;1-1:11/1;"), "n2;0-1:11/1000000000;1-1:11/1;");
        check.due("7: an arc above, and a lesser one", made.bared("n2;0-1:00/1000000000;1-1:11/1;0-1:11/8;"),
            "n2;0-1:11/8;1-1:11/1;");
        check.due("7: an end above", made.bared("n2;0-1:00/1000000000;f1/1;"), "" + FULL);
        check.due("7: an end above, and a lesser one", made.bared("n2;0-1:00/1000000000;f1/1;f0/3;"), "n2;f0/3;f1/1;");
        check.due("7: far steps to nothing", made.bared("n3;0-1:00/1000000000;1-2:00/1000000000;"), "n3;");
        StringBuilder told = new StringBuilder("n3;0-1:00/0;");
        for (int labels = 1; labels <= 32; labels++) {
            told.append("1-2:" + labels / 8 + labels % 8 + "/0;");
        }
        check.due("7: 64 arcs", made.bared(told.toString()).split(";").length, 65);
        check.due("7: 65 arcs", made.bared(told + "0-2:77/0;"), "" + FULL);
    }

    private static void determine() {
        check.due("8: rests", made.determined("n4;s0/5;f3/1;0-1:11/2;0-2:11/6;1-3:22/9;2-3:22/1;"),
            "n3;s0/5;f2/1;0-1:11/2;1-2:22/5;");
        check.due("8: a rest at the end", made.determined("n3;s0/0;f1/9;f2/1;0-1:11/2;0-2:11/6;"),
            "n2;s0/0;f1/5;0-1:11/2;");
        check.due("8: other rests are other states",
            made.determined("n5;s0/0;0-1:11/0;0-2:11/1;0-1:22/0;0-2:22/2;"), "n3;s0/0;0-1:11/0;0-2:22/0;");
        check.due("8: the same rests are one",
            made.determined("n5;s0/0;0-1:11/0;0-2:11/1;0-1:22/7;0-2:22/8;"), "n2;s0/0;0-1:11/0;0-1:22/7;");
        check.due("8: sets that differ in state 0 alone",
            made.determined("n3;s2/0;f0/5;2-0:11/0;2-1:11/0;2-1:22/0;"), "n3;s0/0;f1/5;0-1:11/0;0-2:22/0;");
        check.due("8: as found",
            made.determined("n4;s3/0;f0/4;3-0:77/0;3-1:11/0;1-2:66/0;1-0:55/0;"),
            "n4;s0/0;f2/4;0-1:11/0;0-2:77/0;1-2:55/0;1-3:66/0;");
        check.due("8: no start", made.determined("n3;f0/1;0-1:11/2;"), "n0;");
        check.due("8: no states", made.determined("n0;"), "n0;");
        check.due("8: the start alone", made.determined("n2;s1/1000000000;f1/1000000000;"),
            "n1;s0/1000000000;f0/1000000000;");
    }

    private static void determineUnfit() {
        check.due("8: in 0", made.determined("n2;s0/0;0-1:01/0;"), "" + UNFIT);
        check.due("8: both 0", made.determined("n2;s0/0;0-1:00/0;"), "" + UNFIT);
        check.due("8: out 0", made.determined("n2;s0/0;0-1:10/0;"), "" + UNFIT);
        check.due("8: another out", made.determined("n2;s0/0;0-1:12/0;"), "" + UNFIT);
        check.due("8: to itself", made.determined("n2;s0/0;1-1:11/0;"), "" + UNFIT);
        check.due("8: a ring off the paths", made.determined("n4;s0/0;0-1:11/0;3-2:11/0;2-3:22/0;"), "" + UNFIT);
        check.due("8: unfit without a start", made.determined("n2;0-1:12/0;"), "" + UNFIT);
        StringBuilder ring = new StringBuilder("n16;s0/0;15-0:11/0;");
        for (int q = 0; q < 15; q++) {
            ring.append(q + "-" + (q + 1) + ":11/0;");
        }
        check.due("8: a ring of all", made.determined(ring.toString()), "" + UNFIT);
        String chain = ring.toString().replace("15-0:11/0;", "");
        check.due("8: a chain of all", made.determined(chain), chain);
    }

    private static void determineFull() {
        check.due("8: a large rest is no weight",
            made.determined("n4;s0/0;0-1:11/0;0-2:11/1000000000;1-3:22/1000000000;2-3:22/1000000000;f3/0;"),
            "n3;s0/0;f2/0;0-1:11/0;1-2:22/1000000000;");
        check.due("8: rests above 1000000000 that never count",
            made.determined("n5;s0/0;0-1:11/0;1-2:11/0;0-3:11/1000000000;3-4:11/1000000000;f2/0;"),
            "n3;s0/0;f2/0;0-1:11/0;1-2:11/0;");
        check.due("8: an arc above",
            made.determined("n4;s0/0;0-1:11/0;0-2:11/1000000000;2-3:22/1;"), "" + FULL);
        check.due("8: an end above", made.determined("n3;s0/0;0-1:11/0;0-2:11/1000000000;f2/1;"), "" + FULL);
        check.due("8: an end above, and a lesser one",
            made.determined("n3;s0/0;0-1:11/0;0-2:11/1000000000;f2/1;f1/6;"), "n2;s0/0;f1/6;0-1:11/0;");
        StringBuilder many = new StringBuilder("n16;s0/0;");
        for (int q = 0; q < 4; q++) {
            many.append(q + "-" + (q + 1) + ":11/0;" + q + "-" + (q + 1) + ":22/0;");
            many.append(q + "-" + (q + 5) + ":11/" + (1 << q) + ";");
            many.append((q + 5) + "-" + (q + 6) + ":11/0;" + (q + 5) + "-" + (q + 6) + ":22/0;");
        }
        check.due("8: 16 states", made.determined(many.toString()).substring(0, 9), "n16;s0/0;");
        check.due("8: 17 states", made.determined(many + "0-10:33/0;"), "" + FULL);
        StringBuilder wide = new StringBuilder("n16;s0/0;4-5:11/0;");
        for (int label = 1; label <= 7; label++) {
            String labels = ":" + label + label + "/";
            wide.append("0-1" + labels + "0;0-2" + labels + label + ";1-3" + labels + "0;3-4" + labels + "0;");
        }
        check.due("8: 64 arcs", made.determined(wide.toString()).split("-").length, 65);
        check.due("8: 65 arcs", made.determined(wide + "4-5:22/0;"), "" + FULL);
    }

    private static void push() {
        check.due("9: pushed", made.pushed("n3;s0/1;f2/7;0-1:11/2;0-2:22/9;1-2:00/3;"),
            "n3;s0/13;f2/0;0-1:11/0;0-2:22/4;1-2:00/0;");
        check.due("9: a state that leads nowhere", made.pushed("n3;s0/1;f1/4;0-1:11/2;0-2:11/2;2-2:11/1;"),
            "n3;s0/7;f1/0;0-1:11/0;");
        check.due("9: an end before a better one", made.pushed("n2;s0/0;f0/9;f1/1;0-1:11/2;"),
            "n2;s0/3;f0/6;f1/0;0-1:11/0;");
        check.due("9: off the paths too", made.pushed("n3;s2/0;f1/4;0-1:11/2;1-0:22/1;"),
            "n3;s2/0;f1/0;0-1:11/0;1-0:22/3;");
        check.due("9: the start leads nowhere", made.pushed("n2;s0/8;0-1:11/2;"), "n2;s0/8;");
        check.due("9: no start", made.pushed("n2;f1/3;0-1:11/2;"), "n2;f1/0;0-1:11/0;");
        check.due("9: no states", made.pushed("n0;"), "n0;");
    }

    private static void pushFull() {
        check.due("9: a start above", made.pushed("n1;s0/1;f0/1000000000;"), "" + FULL);
        check.due("9: not above", made.pushed("n1;s0/0;f0/1000000000;"), "n1;s0/1000000000;f0/0;");
        check.due("9: an arc above", made.pushed("n2;f0/0;f1/1;0-1:11/1000000000;"), "" + FULL);
        check.due("9: large onward weights",
            made.pushed("n4;s3/0;f0/1000000000;1-0:11/1000000000;2-1:11/1000000000;f3/5;"),
            "n4;s3/5;f0/0;f3/0;1-0:11/0;2-1:11/0;");
    }

    private static void trim() {
        Run x = new Run();
        Machines.set(x, 0, "n6;s4/3;f1/2;f0/9;f5/1;4-1:11/1;1-4:22/2;4-3:11/1;2-1:11/1;4-5:00/4;5-5:01/6;0-0:11/1;4-4:12/7;");
        check.due("10: trim(0, 1)", x.trim(0, 1), 3);
        check.due("10: trimmed", Machines.show(x, 1),
            "n3;s1/3;f0/2;f2/1;0-1:22/2;1-2:00/4;1-0:11/1;1-1:12/7;2-2:01/6;");
        Machines.set(x, 0, "n2;s0/3;f1/2;1-0:11/1;");
        check.due("10: no path", x.trim(0, 1), 0);
        check.due("10: none at all", Machines.show(x, 1), "n0;");
        Machines.set(x, 0, "n2;f1/2;0-1:11/1;");
        check.due("10: no start", x.trim(0, 1), 0);
        check.due("10: none at all without a start", Machines.show(x, 1), "n0;");
        Machines.set(x, 0, "n2;s0/0;0-1:11/1;");
        check.due("10: no end", x.trim(0, 1), 0);
        StringBuilder chain = new StringBuilder("n16;s15/1000000000;f0/1000000000;");
        for (int q = 1; q < 16; q++) {
            chain.append(q + "-" + (q - 1) + ":11/1000000000;");
        }
        Machines.set(x, 0, chain.toString());
        check.due("10: all of a chain", x.trim(0, 1), 16);
        check.due("10: the chain", Machines.show(x, 1), chain.toString());
        Machines.set(x, 0, "n16;s15/1;f15/2;15-15:77/3;");
        check.due("10: the last alone", x.trim(0, 1), 1);
        check.due("10: it is 0 then", Machines.show(x, 1), "n1;s0/1;f0/2;0-0:77/3;");
    }

    private static void noSlots() {
        Run x = new Run();
        Machines.set(x, 0, "n2;s0/1;f1/2;0-1:12/1;");
        String before = Machines.all(x);
        for (int no : new int[] {-1, 4, Integer.MIN_VALUE, Integer.MAX_VALUE}) {
            check.due("6: a", x.compose(no, 0, 0), NONE);
            check.due("6: b", x.compose(0, no, 0), NONE);
            check.due("6: c", x.compose(0, 0, no), NONE);
            check.due("7: a", x.bare(no, 0), NONE);
            check.due("7: c", x.bare(0, no), NONE);
            check.due("8: a", x.determine(no, 0), NONE);
            check.due("8: c, unfit or not", x.determine(0, no), NONE);
            check.due("9: a", x.push(no, 0), NONE);
            check.due("9: c", x.push(0, no), NONE);
            check.due("10: a", x.trim(no, 0), NONE);
            check.due("10: c", x.trim(0, no), NONE);
        }
        check.due("no slot: refused", Machines.all(x), before);
    }

    private static void inPlace() {
        Run x = new Run();
        Machines.set(x, 3, "n2;s0/1;f1/2;0-1:11/1;0-0:11/3;");
        check.due("6: all one slot", x.compose(3, 3, 3), 4);
        check.due("6: in place", Machines.show(x, 3),
            "n4;s0/2;f3/4;0-0:11/6;0-1:11/4;0-2:11/4;0-3:11/2;");
        Machines.set(x, 3, "n2;s0/1;f1/2;0-1:00/1;1-1:11/3;");
        check.due("7: one slot", x.bare(3, 3), 2);
        check.due("7: in place", Machines.show(x, 3), "n2;s0/1;f0/3;f1/2;0-1:11/4;1-1:11/3;");
        check.due("9: one slot", x.push(3, 3), 2);
        check.due("9: in place", Machines.show(x, 3), "n2;s0/4;f0/0;f1/0;0-1:11/3;1-1:11/3;");
        Machines.set(x, 3, "n3;s2/1;f1/2;2-1:11/4;");
        check.due("10: one slot", x.trim(3, 3), 2);
        check.due("10: in place", Machines.show(x, 3), "n2;s1/1;f0/2;1-0:11/4;");
        check.due("8: one slot", x.determine(3, 3), 2);
        check.due("8: in place", Machines.show(x, 3), "n2;s0/1;f1/2;0-1:11/4;");
    }
}
