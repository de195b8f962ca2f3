/** Promises 17 to 20: the text, printed, parsed, fed and read. */
public final class TextTest {
    private static final int NONE = WeighedMachines.NONE;
    private static final int FULL = WeighedMachines.FULL;
    private static final int SYNTAX = WeighedMachines.SYNTAX;
    private static final int RANGE = WeighedMachines.RANGE;
    private static final int TWICE = WeighedMachines.TWICE;
    private static final int[] NO_SLOTS = {-1, 4, Integer.MIN_VALUE, Integer.MAX_VALUE};
    private static final Check check = new Check();

    public static void main(String[] args) {
        print();
        printLongest();
        parse();
        parseFaults();
        parseFull();
        parseRefused();
        feed();
        feedFull();
        letter();
        check.finish();
    }

    private static void print() {
        Run x = new Run();
        x.feed('x', 1);
        check.due("17: an empty one", x.print(0), 3);
        check.due("17: its text", Machines.text(x), "n0;");
        x.fresh(2, 12);
        x.start(2, 11, 10);
        x.end(2, 10, 0);
        x.end(2, 0, 1000000000);
        x.arc(2, 10, 11, 8 * 7, 99);
        x.arc(2, 1, 0, 3, 0);
        String due = "n12;s11/10;f0/1000000000;f10/0;1-0:03/0;10-11:70/99;";
        check.due("17: print(2)", x.print(2), due.length());
        check.due("17: the text", Machines.text(x), due);
        String before = Machines.all(x);
        for (int slot : NO_SLOTS) {
            check.due("17: no slot", x.print(slot), NONE);
        }
        check.due("17: refused", Machines.all(x), before);
    }

    private static void printLongest() {
        Run x = new Run();
        StringBuilder due = new StringBuilder("n16;s15/1000000000;");
        x.fresh(0, 16);
        x.start(0, 15, 1000000000);
        for (int q = 0; q < 16; q++) {
            x.end(0, q, 1000000000);
            due.append("f" + q + "/1000000000;");
        }
        for (int k = 0; k < 64; k++) {
            int to = 10 + k % 6;
            int labels = k / 6;
            x.arc(0, 15, to, labels, 1000000000);
            due.append("15-" + to + ":" + labels / 8 + labels % 8 + "/1000000000;");
        }
        check.due("17: the longest print", x.print(0), due.length());
        check.due("17: its text", Machines.text(x), due.toString());
        check.due("18: parsed again", x.parse(1), 64);
        check.due("18: the same", Machines.show(x, 1), Machines.show(x, 0));
    }

    private static void parsed(String text, String machine) {
        Run x = new Run();
        Machines.set(x, 3, "n1;s0/1;f0/1;0-0:11/1;");
        int answer = Machines.parse(x, 3, text);
        check.due("18: arcs of " + text, answer, x.count(3, 1));
        check.due("18: " + text, Machines.show(x, 3), machine);
        check.due("18: the text stays", Machines.text(x), text);
    }

    private static void parse() {
        parsed("n0;", "n0;");
        parsed("n16;", "n16;");
        parsed("n2;0-1:12/3;f1/4;s0/5;f0/0;", "n2;s0/5;f0/0;f1/4;0-1:12/3;");
        parsed("n2;1-0:77/1000000000;0-1:00/0;", "n2;0-1:00/0;1-0:77/1000000000;");
        parsed("n2;0-1:12/3;0-1:12/2;0-1:12/4;", "n2;0-1:12/2;");
        parsed("n12;s11/1000000000;f10/1000000000;", "n12;s11/1000000000;f10/1000000000;");
    }

    private static void fault(String text, int due) {
        Run x = new Run();
        check.due("18: " + text, Machines.parse(x, 0, text), due);
        check.due("18: refused " + text, Machines.all(x), "n0;\nn0;\nn0;\nn0;\n" + text + "\n");
    }

    private static void parseFaults() {
        String[] syntax = {"", "n", "n;", "x", "1;", " n1;", "n1", "n1 ;", "n-1;", "n1;;", "n1;n1;", "n1; ", "n01;",
            "n00;", "n12345678901;", "n00000000001;", "n017;", "s0/0;", "f0/0;", "0-0:11/1;", "n1;x",
            "n1;s", "n1;s/", "n1;s0", "n1;s0;", "n1;s0/", "n1;s0/;", "n1;s0/0", "n1;s0/0,", "n1;s00/0;",
            "n1;s0/00;", "n1;s0/01;", "n1;s0/10000000000;", "n1;s0/99999999999;", "n1;s12345678901/0;",
            "n1;f", "n1;f0", "n1;f0/", "n1;f0/0", "n1;f0-0;", "n1;S0/0;",
            "n1;0", "n1;0-", "n1;-0:11/1;", "n1;0-0", "n1;0-0:", "n1;0-0:1", "n1;0-0:1/1;", "n1;0-0:/1;",
            "n1;0-0:11", "n1;0-0:111/1;", "n1;0-0:119/1;", "n1;0-0:11/", "n1;0-0:11/1", "n1;0-0:11/1:", "n1;0-0:11/-1;",
            "n1;0-0/11/1;", "n1;0:0:11/1;", "n1;00-0:11/1;", "n1;0-00:11/1;", "n1;0-0:11/01;",
            "n1;0-0:11/10000000000;", "n1;0-0:x8/1;"};
        for (String text : syntax) {
            fault(text, SYNTAX);
        }
        String[] range = {"n17;", "n17", "n17x", "n1000000000", "n9999999999", "n9999999999;", "n100;",
            "n0;s0/0;", "n0;f0", "n0;0", "n1;s1", "n1;s1x", "n1;s1/x", "n1;s9999999999", "n16;s16/0;", "n1;f1",
            "n1;1", "n1;1x", "n1;1-5", "n1;0-1", "n1;0-1x", "n16;0-16:11/1;", "n1;0-0:8", "n1;0-0:9x",
            "n1;0-0:18", "n1;0-0:79/", "n1;0-0:89/1;", "n1;0-0:11/1000000001", "n1;0-0:11/1000000001x",
            "n1;s0/1000000001;", "n1;s0/9999999999", "n1;f0/1000000001;", "n1;s0/0;s1/0;", "n1;f0/0;f1/0;",
            "n1;s0/1000000001;n"};
        for (String text : range) {
            fault(text, RANGE);
        }
        String[] twice = {"n1;s0/0;s0/0;", "n2;s0/0;s1/0;", "n1;s0/0;s0", "n1;s0/0;s0x", "n1;s0/0;s0/1000000001;",
            "n1;f0/0;f0/0;", "n2;f1/0;f0/0;f1", "n1;f0/0;f0,"};
        for (String text : twice) {
            fault(text, TWICE);
        }
        fault("n1;s0/0;s00/0;", SYNTAX);
        fault("n1;s0/0;s;", SYNTAX);
        fault("n1;f0/0;f00/0;", SYNTAX);
    }

    private static void parseFull() {
        String full = Machines.allPairs(2, 9);
        parsed(full + "0-0:77/8;", full.substring(0, full.length() - 2) + "8;");
        parsed(full + "s0/1;", full.substring(0, 3) + "s0/1;" + full.substring(3));
        fault(full + "1-1:77/9;", FULL);
        fault(full + "1-1:77/9;x", FULL);
        fault(full + "1-1:77/9", SYNTAX);
        fault(full + "1-1:77/1000000001;", RANGE);
        fault(full + "1-2:77/9;", RANGE);
        fault(full + "0-0:77/8;1-1:77/9;", FULL);
    }

    private static void parseRefused() {
        Run x = new Run();
        Machines.set(x, 1, "n2;s0/1;f1/2;0-1:11/3;");
        x.best(1);
        for (String text : new String[] {"n3;s0/0;x", "n17;", "n1;f0/0;f0/0;", Machines.allPairs(2, 9) + "1-1:77/9;"}) {
            Machines.feed(x, text);
            String before = Machines.all(x);
            check.due("18: a fault", x.parse(1) < NONE, true);
            check.due("18: refused", Machines.all(x), before);
            for (int slot : NO_SLOTS) {
                check.due("18: no slot", x.parse(slot), NONE);
            }
            check.due("18: refused, no slot", Machines.all(x), before);
        }
    }

    private static void feed() {
        Run x = new Run();
        check.due("19: feed(ab, 2)", x.feed('a' << 8 | 'b', 2), 2);
        check.due("19: higher bytes do not count", x.feed(0x0A0A0A0A0A0A0A7EL, 1), 3);
        check.due("19: eight", x.feed(0x2021222324252627L, 8), 11);
        check.due("19: the text", Machines.text(x), "ab~ !\"#$%&'");
        String before = Machines.all(x);
        long letters = 0x4141414141414141L;
        for (int n : new int[] {-1, 9, 16, Integer.MIN_VALUE, Integer.MAX_VALUE}) {
            check.due("19: n = " + n, x.feed(letters, n), NONE);
        }
        for (int code : new int[] {0, 10, 31, 127, 128, 160, 255}) {
            for (int at = 0; at < 8; at++) {
                long one = letters & ~(255L << 8 * at) | (long) code << 8 * at;
                check.due("19: code " + code, x.feed(one, 8), NONE);
            }
        }
        check.due("19: refused", Machines.all(x), before);
        check.due("19: n = 0", x.feed(-1, 0), 0);
        check.due("19: empty", Machines.text(x), "");
        check.due("19: n = 0 again", x.feed(0, 0), 0);
    }

    private static void feedFull() {
        Run x = new Run();
        for (int k = 1; k <= 199; k++) {
            check.due("19: on and on", x.feed(0x4142434445464748L, 8), 8 * k);
        }
        check.due("19: 1599", x.feed(0x41424344454647L, 7), 1599);
        String before = Machines.all(x);
        check.due("19: 1601", x.feed(0x4142, 2), NONE);
        check.due("19: refused", Machines.all(x), before);
        check.due("19: 1600", x.feed('Z', 1), 1600);
        check.due("19: 1601 by one", x.feed('Z', 1), NONE);
        check.due("19: 1608", x.feed(0x4142434445464748L, 8), NONE);
        check.due("20: the last", x.letter(1599), 'Z');
        check.due("20: behind it", x.letter(1600), NONE);
    }

    private static void letter() {
        Run x = new Run();
        x.feed('a' << 8 | '~', 2);
        check.due("20: letter(0)", x.letter(0), 'a');
        check.due("20: letter(1)", x.letter(1), '~');
        check.due("20: letter(2)", x.letter(2), NONE);
        check.due("20: letter(-1)", x.letter(-1), NONE);
        check.due("20: far away", x.letter(Integer.MAX_VALUE), NONE);
        check.due("20: far below", x.letter(Integer.MIN_VALUE), NONE);
        x.feed(0, 0);
        check.due("20: none left", x.letter(0), NONE);
    }
}
