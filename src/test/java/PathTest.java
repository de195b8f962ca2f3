/** Promises 11 to 13: the least weight of a pair of rows, and the best path. */
public final class PathTest {
    private static final int NONE = WeighedMachines.NONE;
    private static final int[] NO_SLOTS = {-1, 4, Integer.MIN_VALUE, Integer.MAX_VALUE};
    private static final Check check = new Check();

    public static void main(String[] args) {
        weigh();
        weighRows();
        weighEmptySteps();
        weighLarge();
        best();
        bestTies();
        bestKept();
        step();
        check.finish();
    }

    private static void weigh() {
        Run x = new Run();
        Machines.set(x, 0, "n3;s0/100;f2/1;f0/50;0-1:12/7;0-2:12/30;1-2:00/2;1-2:30/3;2-2:03/4;");
        check.due("11: start and end alone", x.weigh(0, 0, 0), 150);
        check.due("11: 1 to 2", x.weigh(0, 1, 2), 110);
        check.due("11: 13 to 2", x.weigh(0, 13, 2), 111);
        check.due("11: 1 to 2333", x.weigh(0, 1, 2333), 122);
        check.due("11: 13 to 23", x.weigh(0, 13, 23), 115);
        check.due("11: no such reading", x.weigh(0, 2, 2), NONE);
        check.due("11: no such writing", x.weigh(0, 1, 1), NONE);
        check.due("11: in another order", x.weigh(0, 31, 2), NONE);
        check.due("11: too little", x.weigh(0, 1, 0), NONE);
        x.end(0, 2, -1);
        check.due("11: no end", x.weigh(0, 1, 2), NONE);
        Machines.set(x, 1, "n1;f0/3;");
        check.due("11: no start", x.weigh(1, 0, 0), NONE);
        check.due("11: no states", x.weigh(2, 0, 0), NONE);
        for (int slot : NO_SLOTS) {
            check.due("11: no slot", x.weigh(slot, 0, 0), NONE);
        }
    }

    private static void weighRows() {
        Run x = new Run();
        StringBuilder told = new StringBuilder("n1;s0/0;f0/0;");
        for (int label = 1; label <= 7; label++) {
            told.append("0-0:" + label + "0/" + label + ";0-0:0" + label + "/10;");
        }
        Machines.set(x, 0, told.toString());
        check.due("11: eight read", x.weigh(0, 12345677, 0), 35);
        check.due("11: eight written", x.weigh(0, 0, 77777777), 80);
        check.due("11: eight of both", x.weigh(0, 11111111, 77777777), 88);
        int[] noRows = {-1, -12, 8, 9, 10, 18, 81, 101, 100000001, 111111111, 777777777, 1111111111,
            Integer.MAX_VALUE, Integer.MIN_VALUE};
        for (int row : noRows) {
            check.due("11: weigh(0, " + row + ", 0)", x.weigh(0, row, 0), NONE);
            check.due("11: weigh(0, 0, " + row + ")", x.weigh(0, 0, row), NONE);
        }
    }

    private static void weighEmptySteps() {
        Run x = new Run();
        StringBuilder told = new StringBuilder("n16;s15/1;f0/2;15-0:00/900;");
        for (int q = 15; q > 0; q--) {
            told.append(q + "-" + (q - 1) + ":00/3;");
        }
        Machines.set(x, 0, told.toString());
        check.due("11: a chain against the order", x.weigh(0, 0, 0), 48);
        Machines.set(x, 0, "n2;s0/0;f1/0;0-0:00/0;0-1:00/5;1-0:00/0;1-1:11/1;0-0:11/0;");
        check.due("11: round and round", x.weigh(0, 111, 111), 5);
    }

    private static void weighLarge() {
        Run x = new Run();
        Machines.set(x, 0, "n1;s0/1000000000;f0/1000000000;0-0:10/1000000000;0-0:01/1000000000;");
        check.due("11: large", x.weigh(0, 11111111, 11111111), 18000000000L);
    }

    private static void best() {
        Run x = new Run();
        Machines.set(x, 1, "n4;s0/10;f3/2;f1/100;0-1:10/1;1-2:01/1;2-3:22/1;0-3:77/4;");
        check.due("12: best(1)", x.best(1), 15);
        check.due("12: its path", Machines.path(x), "0-1:10/1;1-2:01/1;2-3:22/1;");
        Machines.set(x, 2, "n1;s0/1000000000;f0/1000000000;0-0:00/0;");
        check.due("12: no arcs", x.best(2), 2000000000L);
        check.due("12: no steps", Machines.path(x), "");
        StringBuilder told = new StringBuilder("n16;s15/1000000000;f0/1000000000;");
        for (int q = 15; q > 0; q--) {
            told.append(q + "-" + (q - 1) + ":00/1000000000;");
        }
        Machines.set(x, 3, told.toString());
        check.due("12: a long chain", x.best(3), 17000000000L);
        check.due("12: its last step", x.step(14, 1), 0);
        check.due("12: none behind it", x.step(15, 1), NONE);
    }

    private static void bestTies() {
        Run x = new Run();
        Machines.set(x, 0, "n3;s0/0;f2/0;0-1:11/1;1-2:11/1;0-2:77/2;");
        check.due("12: fewest arcs", x.best(0), 2);
        check.due("12: its path", Machines.path(x), "0-2:77/2;");
        Machines.set(x, 0, "n4;s0/0;f3/0;0-1:21/1;0-2:13/1;0-2:12/1;1-3:11/1;2-3:77/1;2-3:76/1;");
        check.due("12: least arcs", x.best(0), 2);
        check.due("12: where they differ first", Machines.path(x), "0-2:12/1;2-3:76/1;");
        Machines.set(x, 0, "n2;s0/0;f1/0;0-0:00/0;0-1:10/0;1-1:00/0;1-0:00/0;");
        check.due("12: weights of 0", x.best(0), 0);
        check.due("12: no rounds", Machines.path(x), "0-1:10/0;");
        Machines.set(x, 0, "n3;s0/0;f0/9;f1/2;f2/2;0-2:11/1;0-1:11/1;");
        check.due("12: by to", x.best(0), 3);
        check.due("12: the lesser to", Machines.path(x), "0-1:11/1;");
        Machines.set(x, 0, "n2;s0/0;f0/5;f1/5;0-1:11/0;");
        check.due("12: no arc is fewer", x.best(0), 5);
        check.due("12: no arc", Machines.path(x), "");
    }

    private static void bestKept() {
        Run x = new Run();
        Machines.set(x, 0, "n2;s0/1;f1/1;0-1:12/1;");
        check.due("12: found", x.best(0), 3);
        x.arc(0, 0, 1, 8 + 2, 0);
        check.due("13: as it was then", Machines.path(x), "0-1:12/1;");
        x.end(0, 1, -1);
        String before = Machines.all(x);
        check.due("12: no path", x.best(0), NONE);
        check.due("12: no start", x.best(1), NONE);
        for (int slot : NO_SLOTS) {
            check.due("12: no slot", x.best(slot), NONE);
        }
        check.due("12: refused", Machines.all(x), before);
        x.fresh(0, 0);
        check.due("13: kept", Machines.path(x), "0-1:12/1;");
        Machines.set(x, 1, "n1;f0/1;");
        check.due("12: an end without a start", x.best(1), NONE);
    }

    private static void step() {
        Run x = new Run();
        Machines.set(x, 0, "n16;s3/0;f2/0;3-15:70/1000000000;15-2:06/5;");
        x.best(0);
        int[] first = {3, 15, 7, 0, 1000000000};
        int[] second = {15, 2, 0, 6, 5};
        for (int what = 0; what < 5; what++) {
            check.due("13: step(0, " + what + ")", x.step(0, what), first[what]);
            check.due("13: step(1, " + what + ")", x.step(1, what), second[what]);
        }
        check.due("13: step 2", x.step(2, 0), NONE);
        check.due("13: step -1", x.step(-1, 0), NONE);
        check.due("13: what 5", x.step(0, 5), NONE);
        check.due("13: what -1", x.step(0, -1), NONE);
        check.due("13: far away", x.step(Integer.MAX_VALUE, 0), NONE);
    }
}
