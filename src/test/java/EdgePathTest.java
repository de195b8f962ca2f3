/** The edges of promises 11 to 13, and of the terms on paths and rows: a test for each sentence. */
public final class EdgePathTest {
    private static final int NONE = WeighedMachines.NONE;
    private static final int LOWEST = Integer.MIN_VALUE;
    private static final int HIGHEST = Integer.MAX_VALUE;
    private static final int[] NO_SLOTS = {-1, 4, -4, 5, 256, LOWEST, HIGHEST};
    private static final Check check = new Check();

    public static void main(String[] args) {
        pathOfNoArcs();
        readsAndWrites();
        rowDigits();
        rowLength();
        rowOfNone();
        weighLeast();
        weighNone();
        weighNoSlot();
        weighNoRow();
        weighSumsDoNotWrap();
        bestLeast();
        bestFewestArcs();
        bestLeastArc();
        bestNoSlot();
        bestNoPath();
        bestIsKept();
        bestSumsDoNotWrap();
        stepNone();
        stepAsItWas();
        stepFoundLast();
        greatest();
        check.finish();
    }

    private static Run with(String machine) {
        Run x = new Run();
        Machines.set(x, 0, machine);
        return x;
    }

    /** One state that reads and writes any rows, each label in for its number and each one out for 10. */
    private static Run anyRows() {
        StringBuilder told = new StringBuilder("n1;s0/0;f0/0;");
        for (int label = 1; label <= 7; label++) {
            told.append("0-0:" + label + "0/" + label + ";0-0:0" + label + "/10;");
        }
        return with(told.toString());
    }

    private static void pathOfNoArcs() {
        check.sentence("A path goes from the start along arcs (perhaps none) to a state with an end weight");
        Run x = with("n2;s1/3;f1/4;0-0:11/1;");
        check.due("weigh of none", x.weigh(0, 0, 0), 7);
        check.due("best of none", x.best(0), 7);
        check.due("it has no arc", x.step(0, 0), NONE);
        check.due("trim of none", x.trim(0, 1), 1);
        x.end(0, 1, 0);
        x.start(0, 1, 0);
        check.due("a path of the weight 0", x.weigh(0, 0, 0), 0);
        check.due("a best one of the weight 0", x.best(0), 0);
    }

    private static void readsAndWrites() {
        check.sentence("It reads the labels in that are not 0, in this order, and writes those out");
        Run x = with("n5;s0/0;f4/0;0-1:10/1;1-2:02/1;2-3:00/1;3-4:34/1;");
        check.due("13 and 24", x.weigh(0, 13, 24), 4);
        check.due("31 and 24", x.weigh(0, 31, 24), NONE);
        check.due("13 and 42", x.weigh(0, 13, 42), NONE);
        check.due("24 and 13", x.weigh(0, 24, 13), NONE);
        check.due("1 and 24", x.weigh(0, 1, 24), NONE);
        check.due("13 and 2", x.weigh(0, 13, 2), NONE);
        check.due("133 and 24", x.weigh(0, 133, 24), NONE);
        check.due("13 and 224", x.weigh(0, 13, 224), NONE);
    }

    private static void rowDigits() {
        check.sentence("Rows: their decimal digits are the labels, all 1 .. 7");
        Run x = anyRows();
        for (int label = 1; label <= 7; label++) {
            check.due("read " + label, x.weigh(0, label, 0), label);
            check.due("written " + label, x.weigh(0, 0, label), 10);
        }
        for (int row : new int[] {8, 9, 18, 19, 81, 91, 181, 10, 100, 101, 1011, 70, 17171718, 81717171, 10000000, 90000000}) {
            check.due("read " + row, x.weigh(0, row, 0), NONE);
            check.due("written " + row, x.weigh(0, 0, row), NONE);
        }
    }

    private static void rowLength() {
        check.sentence("Rows: at most 8 labels");
        Run x = anyRows();
        check.due("eight read", x.weigh(0, 12345671, 0), 29);
        check.due("eight written", x.weigh(0, 0, 76543217), 80);
        check.due("eight of both", x.weigh(0, 77777777, 11111111), 136);
        check.due("seven read", x.weigh(0, 1234567, 0), 28);
        for (int row : new int[] {111111111, 777777777, 123456712, 1111111111, 1777777777, HIGHEST}) {
            check.due("read " + row, x.weigh(0, row, 0), NONE);
            check.due("written " + row, x.weigh(0, 0, row), NONE);
        }
    }

    private static void rowOfNone() {
        check.sentence("Rows: 0 is the row without labels");
        Run x = with("n2;s0/0;f1/0;0-1:00/4;0-1:10/1;0-1:01/2;0-1:11/3;");
        check.due("0 and 0", x.weigh(0, 0, 0), 4);
        check.due("1 and 0", x.weigh(0, 1, 0), 1);
        check.due("0 and 1", x.weigh(0, 0, 1), 2);
        check.due("1 and 1", x.weigh(0, 1, 1), 3);
    }

    private static void weighLeast() {
        check.sentence("11: The least weight of a path that reads the row x and writes the row y");
        Run x = with("n4;s0/1;f1/9;f2/1;f3/1;0-1:12/1;0-2:12/8;0-3:10/1;3-3:02/5;1-3:00/6;");
        check.due("of three", x.weigh(0, 1, 2), 8);
        Run rounds = with("n2;s0/0;f1/0;0-0:00/0;0-1:00/5;1-0:00/0;1-1:11/1;0-0:11/0;");
        check.due("by empty steps round and round", rounds.weigh(0, 111, 111), 5);
        StringBuilder told = new StringBuilder("n16;s15/1;f0/2;15-0:00/900;");
        for (int q = 15; q > 0; q--) {
            told.append(q + "-" + (q - 1) + ":00/3;");
        }
        check.due("by fifteen empty steps", with(told.toString()).weigh(0, 0, 0), 48);
        check.due("by the same arc again", with("n1;s0/1;f0/2;0-0:77/3;").weigh(0, 77777777, 77777777), 27);
        check.due("with empty steps between all labels",
            with("n2;s0/0;f0/0;0-1:10/1;1-0:00/1;0-1:01/1;").weigh(0, 11111111, 11111111), 32);
    }

    private static void weighNone() {
        check.sentence("11: NONE when there is none (path)");
        check.due("no states", with("n0;").weigh(0, 0, 0), NONE);
        check.due("no start", with("n2;f0/0;f1/0;0-1:11/1;").weigh(0, 0, 0), NONE);
        check.due("no end weight", with("n2;s0/0;0-1:11/1;").weigh(0, 1, 1), NONE);
        check.due("an end that is not come to", with("n2;s0/0;f1/0;1-0:11/1;").weigh(0, 0, 0), NONE);
        check.due("none that reads it", with("n1;s0/0;f0/0;0-0:12/1;").weigh(0, 2, 2), NONE);
        check.due("none that writes it", with("n1;s0/0;f0/0;0-0:12/1;").weigh(0, 1, 1), NONE);
        check.due("none that reads so few", with("n2;s0/0;f1/0;0-1:11/1;").weigh(0, 0, 0), NONE);
        check.due("none that reads so many", with("n2;s0/0;f1/0;0-1:11/1;").weigh(0, 11, 11), NONE);
    }

    private static void weighNoSlot() {
        check.sentence("11: NONE when there is no such slot");
        Run x = anyRows();
        for (int slot : NO_SLOTS) {
            check.due("weigh(" + slot + ", 0, 0)", x.weigh(slot, 0, 0), NONE);
        }
    }

    private static void weighNoRow() {
        check.sentence("11: NONE when a row is not as said");
        Run x = anyRows();
        for (int row : new int[] {-1, -7, -8, -11, -12345671, 8, 10, 111111111, LOWEST, HIGHEST}) {
            check.due("weigh(0, " + row + ", 0)", x.weigh(0, row, 0), NONE);
            check.due("weigh(0, 0, " + row + ")", x.weigh(0, 0, row), NONE);
            check.due("weigh(0, " + row + ", " + row + ")", x.weigh(0, row, row), NONE);
        }
        check.due("one is, the other one not", x.weigh(0, 1, 8), NONE);
        check.due("one is not, the other one is", x.weigh(0, 8, 1), NONE);
    }

    private static void weighSumsDoNotWrap() {
        check.sentence("11: A weight may be far above 1000000000");
        Run x = with("n1;s0/1000000000;f0/1000000000;0-0:10/1000000000;0-0:01/1000000000;");
        check.due("two", x.weigh(0, 0, 0), 2000000000L);
        check.due("three", x.weigh(0, 1, 0), 3000000000L);
        check.due("five", x.weigh(0, 11, 1), 5000000000L);
        check.due("eighteen", x.weigh(0, 11111111, 11111111), 18000000000L);
        Run far = with("n7;s0/0;f5/7;0-1:00/1000000000;1-2:00/1000000000;2-3:00/1000000000;3-4:00/1000000000;"
            + "4-5:00/294967296;0-6:00/1000000000;6-5:00/1000000000;");
        check.due("2000000007 is less than 4294967303", far.weigh(0, 0, 0), 2000000007L);
    }

    private static void bestLeast() {
        check.sentence("12: Best: the one of least weight");
        Run x = with("n4;s0/10;f1/9;f3/2;0-1:10/1;1-2:01/1;2-3:22/1;0-3:77/4;");
        check.due("three arcs are less", x.best(0), 15);
        check.due("they", Machines.path(x), "0-1:10/1;1-2:01/1;2-3:22/1;");
        x.end(0, 1, 3);
        check.due("an end before is less", x.best(0), 14);
        check.due("to it", Machines.path(x), "0-1:10/1;");
        x.end(0, 0, 3);
        check.due("the start itself is less", x.best(0), 13);
        check.due("no arc", Machines.path(x), "");
    }

    private static void bestFewestArcs() {
        check.sentence("12: Of these with the fewest arcs");
        Run x = with("n3;s0/0;f2/0;0-1:11/1;1-2:11/1;0-2:77/2;");
        check.due("two or one", x.best(0), 2);
        check.due("one", Machines.path(x), "0-2:77/2;");
        Machines.set(x, 0, "n2;s0/0;f0/5;f1/5;0-1:11/0;");
        check.due("one or none", x.best(0), 5);
        check.due("none", Machines.path(x), "");
        Machines.set(x, 0, "n2;s0/0;f1/0;0-0:00/0;0-1:10/0;1-1:00/0;1-0:00/0;");
        check.due("round and round for 0", x.best(0), 0);
        check.due("no way round", Machines.path(x), "0-1:10/0;");
        Machines.set(x, 0, "n4;s0/0;f3/0;0-1:00/0;1-2:00/0;2-3:00/0;0-2:77/0;");
        check.due("three or two", x.best(0), 0);
        check.due("two", Machines.path(x), "0-2:77/0;2-3:00/0;");
    }

    private static void bestLeastArc() {
        check.sentence("12: Of these with the least arc (in order) where they differ first");
        Run x = with("n4;s0/0;f3/0;0-1:21/1;0-2:12/1;1-3:11/1;2-3:77/1;");
        check.due("by in", x.best(0), 2);
        check.due("the lesser in", Machines.path(x), "0-2:12/1;2-3:77/1;");
        Machines.set(x, 0, "n4;s0/0;f3/0;0-1:12/1;0-2:11/1;1-3:11/1;2-3:77/1;");
        check.due("by out", x.best(0), 2);
        check.due("the lesser out", Machines.path(x), "0-2:11/1;2-3:77/1;");
        Machines.set(x, 0, "n4;s0/0;f3/0;0-1:11/1;0-2:11/1;1-3:77/1;2-3:11/1;");
        check.due("by to", x.best(0), 2);
        check.due("the lesser to", Machines.path(x), "0-1:11/1;1-3:77/1;");
        Machines.set(x, 0, "n4;s0/0;f2/0;f3/0;0-1:11/1;1-2:12/1;1-3:11/1;");
        check.due("by the second arc", x.best(0), 2);
        check.due("the lesser second", Machines.path(x), "0-1:11/1;1-3:11/1;");
        Machines.set(x, 0, "n4;s0/0;f3/0;0-1:11/2;0-2:22/1;1-3:11/1;2-3:22/2;");
        check.due("weights do not count there", x.best(0), 3);
        check.due("the lesser first", Machines.path(x), "0-1:11/2;1-3:11/1;");
        Machines.set(x, 0, "n4;s0/0;f3/0;0-1:00/3;0-2:22/1;1-3:00/1;2-3:22/2;");
        check.due("less weight goes before the lesser arc", x.best(0), 3);
        check.due("the lesser weight", Machines.path(x), "0-2:22/1;2-3:22/2;");
    }

    private static void bestNoSlot() {
        check.sentence("12: NONE when there is no such slot");
        Run x = anyRows();
        for (int slot : NO_SLOTS) {
            check.due("best(" + slot + ")", x.best(slot), NONE);
        }
    }

    private static void bestNoPath() {
        check.sentence("12: NONE when there is no such path");
        check.due("no states", with("n0;").best(0), NONE);
        check.due("no start", with("n2;f0/0;0-1:11/1;").best(0), NONE);
        check.due("no end weight", with("n2;s0/0;0-1:11/1;").best(0), NONE);
        check.due("an end that is not come to", with("n2;s0/0;f1/0;1-0:11/1;").best(0), NONE);
        check.due("round and round", with("n3;s0/0;f2/0;0-1:11/1;1-0:11/1;").best(0), NONE);
    }

    private static void bestIsKept() {
        check.sentence("12: The best path, which is kept");
        Run x = with("n2;s0/1;f1/1;0-1:12/1;");
        check.due("best(0)", x.best(0), 3);
        x.weigh(0, 1, 2);
        x.print(0);
        x.compose(0, 0, 1);
        x.push(0, 2);
        check.due("by other calls", Machines.path(x), "0-1:12/1;");
        check.due("refused: no path", x.best(3), NONE);
        check.due("refused: no slot", x.best(4), NONE);
        check.due("by refused ones", Machines.path(x), "0-1:12/1;");
    }

    private static void bestSumsDoNotWrap() {
        check.sentence("12: A weight may be far above 1000000000");
        StringBuilder told = new StringBuilder("n16;s15/1000000000;f0/1000000000;");
        for (int q = 15; q > 0; q--) {
            told.append(q + "-" + (q - 1) + ":00/1000000000;");
        }
        Run x = with(told.toString());
        check.due("seventeen", x.best(0), 17000000000L);
        check.due("its last arc", x.step(14, 1), 0);
        check.due("none behind it", x.step(15, 0), NONE);
        Machines.set(x, 0, "n7;s0/0;f5/7;0-1:00/1000000000;1-2:00/1000000000;2-3:00/1000000000;3-4:00/1000000000;"
            + "4-5:00/294967296;0-6:11/1000000000;6-5:11/1000000000;");
        check.due("2000000007 is less than 4294967303", x.best(0), 2000000007L);
        check.due("its path", Machines.path(x), "0-6:11/1000000000;6-5:11/1000000000;");
    }

    private static void stepNone() {
        check.sentence("13: NONE when there is none");
        Run x = with("n16;s3/0;f2/0;3-15:70/1000000000;15-2:06/5;");
        check.due("before any was found", x.step(0, 0), NONE);
        x.best(0);
        int[] last = {15, 2, 0, 6, 5};
        for (int what = 0; what < 5; what++) {
            check.due("the last arc's " + what, x.step(1, what), last[what]);
            for (int k : new int[] {-1, 2, 15, 16, 64, LOWEST, HIGHEST}) {
                check.due("step(" + k + ", " + what + ")", x.step(k, what), NONE);
            }
        }
        for (int what : new int[] {-1, 5, LOWEST, HIGHEST}) {
            check.due("step(0, " + what + ")", x.step(0, what), NONE);
        }
    }

    private static void stepAsItWas() {
        check.sentence("13: Of the best path that was found last, as it was then");
        Run x = with("n2;s0/1;f1/1;0-1:12/9;");
        x.best(0);
        x.arc(0, 0, 1, 10, 0);
        check.due("its arc is lesser now", Machines.path(x), "0-1:12/9;");
        x.arc(0, 0, 0, 0, 0);
        check.due("another arc stands before it now", Machines.path(x), "0-1:12/9;");
        x.push(0, 0);
        check.due("its machine is another one now", Machines.path(x), "0-1:12/9;");
        x.fresh(0, 0);
        check.due("its machine has no states now", Machines.path(x), "0-1:12/9;");
    }

    private static void stepFoundLast() {
        check.sentence("13: That was found last");
        Run x = with("n3;s0/0;f2/0;0-1:11/1;1-2:22/2;");
        Machines.set(x, 1, "n2;s1/0;f0/0;1-0:33/3;");
        Machines.set(x, 2, "n1;s0/0;f0/0;");
        x.best(0);
        check.due("of two arcs", Machines.path(x), "0-1:11/1;1-2:22/2;");
        x.best(1);
        check.due("of one arc", Machines.path(x), "1-0:33/3;");
        x.best(0);
        x.best(2);
        check.due("of none", Machines.path(x), "");
        x.best(3);
        check.due("none was found", Machines.path(x), "");
    }

    private static void greatest() {
        check.sentence("Machines have at most 16 states and 64 arcs: so many are taken");
        StringBuilder told = new StringBuilder("n16;s0/1;f15/3;15-15:00/0;15-0:07/0;15-15:70/0;15-15:77/2;");
        for (int k = 0; k < 60; k++) {
            int label = 1 + k % 4;
            told.append(k / 4 + "-" + (k / 4 + 1) + ":" + (k / 4 < 6 ? label : label - 1) + "0/" + (9 - label) + ";");
        }
        Run x = with(told.toString());
        check.due("the test's own arcs", x.count(0, 1), 64);
        check.due("the last arc counts", x.weigh(0, 1111117, 7), 1 + 15 * 8 + 2 + 3);
        check.due("without it", x.weigh(0, 11111177, 0), 1 + 15 * 8 + 3);
        check.due("the best", x.best(0), 1 + 15 * 5 + 3);
        check.due("its last arc", x.step(14, 1), 15);
        check.due("no more", x.step(15, 0), NONE);
    }
}
