/** Promises 1 to 5 and 14 to 16: a new object, and machines that are set and looked at. */
public final class SettingTest {
    private static final int NONE = WeighedMachines.NONE;
    private static final int FULL = WeighedMachines.FULL;
    private static final int MOST = 1000000000;
    private static final int[] NO_SLOTS = {-1, 4, Integer.MIN_VALUE, Integer.MAX_VALUE};
    private static final Check check = new Check();

    public static void main(String[] args) {
        newObject();
        fresh();
        start();
        end();
        arc();
        arcOrder();
        arcFull();
        count();
        part();
        endOf();
        check.finish();
    }

    private static void newObject() {
        Run x = new Run();
        check.due("1: all of a new object", Machines.all(x), "n0;\nn0;\nn0;\nn0;\n\n");
        check.due("1: letter(0)", x.letter(0), NONE);
        check.due("1: step(0, 0)", x.step(0, 0), NONE);
        for (int slot = 0; slot < 4; slot++) {
            check.due("1: states", x.count(slot, 0), 0);
            check.due("1: start", x.start(slot, 0, 0), false);
            check.due("1: best", x.best(slot), NONE);
        }
        Run other = new Run();
        Machines.set(other, 0, "n1;s0/3;");
        check.due("1: another object", x.count(0, 0), 0);
    }

    private static void fresh() {
        Run x = new Run();
        Machines.set(x, 1, "n2;s1/5;f0/1;0-1:12/3;");
        check.due("2: fresh(1, 16)", x.fresh(1, 16), true);
        check.due("2: what is left", Machines.show(x, 1), "n16;");
        check.due("2: fresh(1, 0)", x.fresh(1, 0), true);
        check.due("2: none", Machines.show(x, 1), "n0;");
        Machines.set(x, 1, "n2;s1/5;f0/1;0-1:12/3;");
        String before = Machines.all(x);
        check.due("2: fresh(1, 17)", x.fresh(1, 17), false);
        check.due("2: fresh(1, -1)", x.fresh(1, -1), false);
        for (int slot : NO_SLOTS) {
            check.due("2: no slot", x.fresh(slot, 3), false);
        }
        check.due("2: refused", Machines.all(x), before);
    }

    private static void start() {
        Run x = new Run();
        x.fresh(3, 2);
        check.due("3: start(3, 1, 7)", x.start(3, 1, 7), true);
        check.due("3: shown", Machines.show(x, 3), "n2;s1/7;");
        check.due("3: start(3, 0, MOST)", x.start(3, 0, MOST), true);
        check.due("3: in place", Machines.show(x, 3), "n2;s0/1000000000;");
        String before = Machines.all(x);
        check.due("3: state 2", x.start(3, 2, 0), false);
        check.due("3: state -1", x.start(3, -1, 0), false);
        check.due("3: weight -1", x.start(3, 0, -1), false);
        check.due("3: weight above", x.start(3, 0, MOST + 1), false);
        check.due("3: slot without states", x.start(2, 0, 0), false);
        for (int slot : NO_SLOTS) {
            check.due("3: no slot", x.start(slot, 0, 0), false);
        }
        check.due("3: refused", Machines.all(x), before);
        check.due("3: weight 0", x.start(3, 0, 0), true);
        check.due("3: weight 0 shown", Machines.show(x, 3), "n2;s0/0;");
    }

    private static void end() {
        Run x = new Run();
        x.fresh(0, 16);
        check.due("4: end(0, 15, MOST)", x.end(0, 15, MOST), true);
        check.due("4: end(0, 2, 0)", x.end(0, 2, 0), true);
        check.due("4: shown", Machines.show(x, 0), "n16;f2/0;f15/1000000000;");
        check.due("4: end(0, 2, 9)", x.end(0, 2, 9), true);
        check.due("4: end(0, 15, -1)", x.end(0, 15, -1), true);
        check.due("4: none there", x.end(0, 3, -1), true);
        check.due("4: then", Machines.show(x, 0), "n16;f2/9;");
        String before = Machines.all(x);
        check.due("4: state 16", x.end(0, 16, 0), false);
        check.due("4: state -1", x.end(0, -1, 0), false);
        check.due("4: weight -2", x.end(0, 2, -2), false);
        check.due("4: weight above", x.end(0, 2, MOST + 1), false);
        check.due("4: none for no state", x.end(1, 0, -1), false);
        for (int slot : NO_SLOTS) {
            check.due("4: no slot", x.end(slot, 0, 0), false);
        }
        check.due("4: refused", Machines.all(x), before);
    }

    private static void arc() {
        Run x = new Run();
        x.fresh(0, 2);
        check.due("5: arc", x.arc(0, 1, 0, 8 * 3 + 5, MOST), 1);
        check.due("5: shown", Machines.show(x, 0), "n2;1-0:35/1000000000;");
        check.due("5: lesser", x.arc(0, 1, 0, 8 * 3 + 5, 4), 1);
        check.due("5: greater", x.arc(0, 1, 0, 8 * 3 + 5, 5), 1);
        check.due("5: the lesser one", x.part(0, 0, 4), 4);
        check.due("5: another to", x.arc(0, 1, 1, 8 * 3 + 5, 5), 2);
        check.due("5: another out", x.arc(0, 1, 0, 8 * 3 + 4, 5), 3);
        check.due("5: another in", x.arc(0, 1, 0, 8 * 2 + 5, 5), 4);
        check.due("5: another from", x.arc(0, 0, 0, 8 * 3 + 5, 5), 5);
        check.due("5: labels 0", x.arc(0, 0, 0, 0, 0), 6);
        check.due("5: labels 63", x.arc(0, 0, 0, 63, 0), 7);
        String before = Machines.all(x);
        check.due("5: from 2", x.arc(0, 2, 0, 0, 0), NONE);
        check.due("5: from -1", x.arc(0, -1, 0, 0, 0), NONE);
        check.due("5: to 2", x.arc(0, 0, 2, 0, 0), NONE);
        check.due("5: to -1", x.arc(0, 0, -1, 0, 0), NONE);
        check.due("5: labels 64", x.arc(0, 0, 0, 64, 0), NONE);
        check.due("5: labels -1", x.arc(0, 0, 0, -1, 0), NONE);
        check.due("5: weight -1", x.arc(0, 0, 0, 0, -1), NONE);
        check.due("5: weight above", x.arc(0, 0, 0, 0, MOST + 1), NONE);
        for (int slot : NO_SLOTS) {
            check.due("5: no slot", x.arc(slot, 0, 0, 0, 0), NONE);
        }
        check.due("5: refused", Machines.all(x), before);
    }

    private static void arcOrder() {
        Run x = new Run();
        x.fresh(0, 16);
        x.arc(0, 15, 0, 0, 1);
        x.arc(0, 2, 0, 8, 2);
        x.arc(0, 2, 0, 7, 3);
        x.arc(0, 2, 15, 6, 4);
        x.arc(0, 2, 3, 6, 5);
        x.arc(0, 10, 3, 6, 6);
        check.due("5: order", Machines.show(x, 0),
            "n16;2-3:06/5;2-15:06/4;2-0:07/3;2-0:10/2;10-3:06/6;15-0:00/1;");
    }

    private static void arcFull() {
        Run x = new Run();
        Machines.set(x, 0, Machines.allPairs(2, 7));
        String before = Machines.all(x);
        check.due("5: a 65th", x.arc(0, 0, 1, 0, 0), FULL);
        check.due("5: a 65th for no state", x.arc(0, 0, 2, 0, 0), NONE);
        check.due("5: refused when full", Machines.all(x), before);
        check.due("5: there already", x.arc(0, 0, 0, 63, 6), 64);
        check.due("5: lesser when full", x.part(0, 63, 4), 6);
    }

    private static void count() {
        Run x = new Run();
        Machines.set(x, 2, "n9;s8/40;f0/0;f3/1;f8/2;1-2:00/3;1-2:01/3;");
        check.due("14: states", x.count(2, 0), 9);
        check.due("14: arcs", x.count(2, 1), 2);
        check.due("14: end weights", x.count(2, 2), 3);
        check.due("14: start", x.count(2, 3), 8);
        check.due("14: its weight", x.count(2, 4), 40);
        check.due("14: what 5", x.count(2, 5), NONE);
        check.due("14: what -1", x.count(2, -1), NONE);
        x.fresh(2, 3);
        check.due("14: arcs of a fresh one", x.count(2, 1), 0);
        check.due("14: ends of a fresh one", x.count(2, 2), 0);
        check.due("14: no start", x.count(2, 3), NONE);
        check.due("14: no start's weight", x.count(2, 4), NONE);
        for (int slot : NO_SLOTS) {
            for (int what = 0; what < 5; what++) {
                check.due("14: no slot", x.count(slot, what), NONE);
            }
        }
    }

    private static void part() {
        Run x = new Run();
        Machines.set(x, 1, "n16;9-14:75/1000000000;3-2:01/4;");
        int[] due = {9, 14, 7, 5, MOST};
        for (int what = 0; what < 5; what++) {
            check.due("15: part(1, 1, " + what + ")", x.part(1, 1, what), due[what]);
        }
        check.due("15: what 5", x.part(1, 1, 5), NONE);
        check.due("15: what -1", x.part(1, 1, -1), NONE);
        check.due("15: arc 2", x.part(1, 2, 0), NONE);
        check.due("15: arc -1", x.part(1, -1, 0), NONE);
        check.due("15: another slot", x.part(0, 0, 0), NONE);
        for (int slot : NO_SLOTS) {
            check.due("15: no slot", x.part(slot, 0, 0), NONE);
        }
    }

    private static void endOf() {
        Run x = new Run();
        Machines.set(x, 1, "n16;f15/1000000000;f0/0;");
        check.due("16: state 15", x.endOf(1, 15), MOST);
        check.due("16: state 0", x.endOf(1, 0), 0);
        check.due("16: none", x.endOf(1, 1), NONE);
        check.due("16: state 16", x.endOf(1, 16), NONE);
        check.due("16: state -1", x.endOf(1, -1), NONE);
        check.due("16: another slot", x.endOf(0, 0), NONE);
        for (int slot : NO_SLOTS) {
            check.due("16: no slot", x.endOf(slot, 0), NONE);
        }
    }
}
