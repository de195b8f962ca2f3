/** The edges of promises 17 to 20, and of the terms on the text and on parsing: a test for each sentence. */
public final class EdgeTextTest {
    private static final int NONE = WeighedMachines.NONE;
    private static final int FULL = WeighedMachines.FULL;
    private static final int SYNTAX = WeighedMachines.SYNTAX;
    private static final int RANGE = WeighedMachines.RANGE;
    private static final int TWICE = WeighedMachines.TWICE;
    private static final int LOWEST = Integer.MIN_VALUE;
    private static final int HIGHEST = Integer.MAX_VALUE;
    private static final int[] NO_SLOTS = {-1, 4, -4, 5, 256, LOWEST, HIGHEST};
    private static final long EIGHT = 0x4142434445464748L;
    /** Each kind of item; no number of it that is cut short is out of range or comes twice. */
    private static final String ALL_KINDS = "n13;s12/10;f2/0;f12/1000000000;0-12:07/1000000000;12-11:70/99;";
    private static final Check check = new Check();

    public static void main(String[] args) {
        textLength();
        textCodes();
        printWithoutStart();
        printStates();
        printNumbers();
        printLongest();
        printReplaces();
        printNoSlot();
        parseAnyOrder();
        parseOneSize();
        parseSemicolons();
        parseWholeItems();
        parseNumberDigits();
        parseLeadingZeros();
        parseLabelDigits();
        parseStatesAbove();
        parseNoState();
        parseLabelAbove();
        parseWeightAbove();
        parseSecondStart();
        parseSecondEnd();
        parseArcAgain();
        parseFull();
        parseFirstFault();
        parseSyntaxWhereItStands();
        parseDigitTooMuch();
        parseRangeWhereItEnds();
        parseTwiceWhereItEnds();
        parseFullAtSemicolon();
        parseLongest();
        parseTextStays();
        parseAnswers();
        parseNoSlot();
        feedOrder();
        feedNoNumber();
        feedNoCode();
        feedTooMany();
        feedNone();
        letterNone();
        check.finish();
    }

    private static void parsed(String text, String machine) {
        Run x = new Run();
        Machines.set(x, 3, "n1;s0/1;f0/1;0-0:11/1;");
        int answer = Machines.parse(x, 3, text);
        check.due("arcs of " + text, answer, x.count(3, 1));
        check.due(text, Machines.show(x, 3), machine);
    }

    private static void fault(String text, int due) {
        Run x = new Run();
        check.due(text, Machines.parse(x, 0, text), due);
    }

    private static void faults(int due, String... texts) {
        for (String text : texts) {
            fault(text, due);
        }
    }

    private static Run fed(int letters) {
        Run x = new Run();
        for (int k = 0; k < letters / 8; k++) {
            x.feed(EIGHT, 8);
        }
        for (int k = 0; k < letters % 8; k++) {
            x.feed('z', 1);
        }
        return x;
    }

    private static void textLength() {
        check.sentence("The text has at most 1600 characters");
        Run x = fed(1592);
        check.due("1600", x.feed(EIGHT, 8), 1600);
        check.due("the last one", x.letter(1599), 'H');
        check.due("none behind it", x.letter(1600), NONE);
        check.due("1601", x.feed('A', 1), NONE);
    }

    private static void textCodes() {
        check.sentence("Characters with codes 32 .. 126");
        Run x = new Run();
        for (int code = 0; code < 256; code++) {
            boolean fit = code >= 32 && code <= 126;
            check.due("code " + code, x.feed(code, 1), fit ? code - 31 : NONE);
        }
        for (int code = 32; code <= 126; code++) {
            check.due("letter of code " + code, x.letter(code - 32), code);
        }
    }

    private static String printed(String machine) {
        Run x = new Run();
        Machines.set(x, 0, machine);
        int letters = x.print(0);
        String text = Machines.text(x);
        check.due("letters of " + text, letters, text.length());
        return text;
    }

    private static void printWithoutStart() {
        check.sentence("The print: if it has a start, s");
        check.due("none", printed("n2;f0/1;0-1:11/1;"), "n2;f0/1;0-1:11/1;");
        check.due("state 0 of the weight 0", printed("n2;s0/0;"), "n2;s0/0;");
        check.due("state 15", printed("n16;s15/1000000000;"), "n16;s15/1000000000;");
    }

    private static void printStates() {
        check.sentence("The print: for each state with an end weight, by its number");
        check.due("none", printed("n3;"), "n3;");
        check.due("no states", printed("n0;"), "n0;");
        check.due("some", printed("n12;f11/1;f2/0;f9/3;"), "n12;f2/0;f9/3;f11/1;");
        check.due("all", printed("n2;f1/5;f0/6;"), "n2;f0/6;f1/5;");
    }

    private static void printNumbers() {
        check.sentence("The print: numbers are decimal without leading zeros");
        StringBuilder told = new StringBuilder("n16;");
        int[] weights = {0, 1, 9, 10, 11, 99, 100, 101, 999, 1000, 1000000, 10000000, 100000000, 999999999, 1000000000, 123456789};
        for (int q = 0; q < 16; q++) {
            told.append("f" + q + "/" + weights[q] + ";");
        }
        check.due("weights", printed(told.toString()), told.toString());
        check.due("states", printed("n11;9-10:01/0;10-9:10/10;"), "n11;9-10:01/0;10-9:10/10;");
        for (int n = 0; n <= 16; n++) {
            check.due("a number of states", printed("n" + n + ";"), "n" + n + ";");
        }
    }

    private static void printLongest() {
        check.sentence("The print of the greatest machine is a text");
        Run x = new Run();
        StringBuilder due = new StringBuilder("n16;s15/1000000000;");
        x.fresh(0, 16);
        x.start(0, 15, 1000000000);
        for (int q = 0; q < 16; q++) {
            x.end(0, q, 1000000000);
            due.append("f" + q + "/1000000000;");
        }
        for (int k = 0; k < 64; k++) {
            x.arc(0, 15, 10 + k % 6, k / 6, 1000000000);
            due.append("15-" + (10 + k % 6) + ":" + k / 6 / 8 + k / 6 % 8 + "/1000000000;");
        }
        check.due("its letters", x.print(0), due.length());
        check.due("its text", Machines.text(x), due.toString());
        check.due("it is parsed again", x.parse(1), 64);
        check.due("to the same machine", Machines.show(x, 1), Machines.show(x, 0));
    }

    private static void printReplaces() {
        check.sentence("17: The text becomes the print of the machine");
        Run x = fed(1600);
        check.due("of a full text", x.print(0), 3);
        check.due("the print alone", Machines.text(x), "n0;");
        x.fresh(0, 16);
        check.due("a longer one", x.print(0), 4);
        check.due("the longer one", Machines.text(x), "n16;");
        check.due("fed behind it", x.feed('x', 1), 5);
    }

    private static void printNoSlot() {
        check.sentence("17: NONE when there is no such slot");
        Run x = new Run();
        for (int slot : NO_SLOTS) {
            check.due("print(" + slot + ")", x.print(slot), NONE);
        }
    }

    private static void parseAnyOrder() {
        check.sentence("Parsing: any number of items s, f and arcs, in any order");
        parsed("n0;", "n0;");
        parsed("n16;", "n16;");
        parsed("n2;0-1:12/3;f1/4;s0/5;f0/0;", "n2;s0/5;f0/0;f1/4;0-1:12/3;");
        parsed("n2;f1/4;1-0:77/1000000000;0-1:00/0;s1/0;", "n2;s1/0;f1/4;0-1:00/0;1-0:77/1000000000;");
        parsed(ALL_KINDS, ALL_KINDS);
    }

    private static void parseOneSize() {
        check.sentence("Parsing: SYNTAX it is not one item n and then ..");
        faults(SYNTAX, "", "s0/0;", "f0/0;", "0-0:11/1;", "1;", ";", " n1;", "N1;", "n1;n1;", "n1;s0/0;n1;", "n1;n", "nn1;");
    }

    private static void parseSemicolons() {
        check.sentence("Parsing: each with its semicolon");
        faults(SYNTAX, "n1", "n1:", "n1;;", "n1;s0/0", "n1;s0/0:", "n1;s0/0;;", "n1;f0/0", "n1;f0/0s0/0;", "n1;0-0:11/1",
            "n1;0-0:11/1;;", "n1;0-0:11/1 ;", "n1; ", "n1;s0/0,f0/0;");
    }

    private static void parseWholeItems() {
        check.sentence("Parsing: SYNTAX each as said");
        for (int length = 0; length < ALL_KINDS.length(); length++) {
            String begin = ALL_KINDS.substring(0, length);
            if (begin.endsWith(";")) {
                parsed(begin, begin);
            } else {
                fault(begin, SYNTAX);
            }
            for (String wrong : new String[] {" ", "x", "~", ",", "S"}) {
                fault(begin + wrong + ALL_KINDS.substring(length + 1), SYNTAX);
                fault(begin + wrong + ALL_KINDS.substring(length), SYNTAX);
            }
        }
        faults(SYNTAX, "n2;s0-0;", "n2;s0:0;", "n2;f0-1;", "n2;0/1:11/1;", "n2;0-1/11/1;", "n2;0-1:11:1;", "n2;0-1:11-1;",
            "n2;-1/0;", "n2;s-1/0;", "n2;s0/-1;", "n2;a0-1:11/1;", "n2;0-1:-1/1;");
    }

    private static void parseNumberDigits() {
        check.sentence("Parsing: a number has one to ten digits");
        faults(SYNTAX, "n;", "n", "n1;s/0;", "n1;s0/;", "n1;f/0;", "n1;f0/;", "n1;-0:11/1;", "n1;0-:11/1;", "n1;0-0:11/;");
        parsed("n1;s0/1000000000;f0/1000000000;0-0:11/1000000000;", "n1;s0/1000000000;f0/1000000000;0-0:11/1000000000;");
        faults(RANGE, "n1000000000;", "n9999999999;", "n1;s1000000000/0;", "n1;f9999999999/0;", "n1;1000000000-0:11/1;",
            "n1;0-9999999999:11/1;", "n1;s0/9999999999;", "n1;f0/1000000001;", "n1;0-0:11/9999999999;");
        faults(SYNTAX, "n10000000000;", "n1;s10000000000/0;", "n1;f10000000000/0;", "n1;10000000000-0:11/1;",
            "n1;0-10000000000:11/1;", "n1;s0/10000000000;", "n1;f0/10000000000;", "n1;0-0:11/10000000000;");
    }

    private static void parseLeadingZeros() {
        check.sentence("Parsing: no leading zero unless it is 0");
        parsed("n1;s0/0;f0/0;0-0:00/0;", "n1;s0/0;f0/0;0-0:00/0;");
        faults(SYNTAX, "n00;", "n01;", "n1;s00/0;", "n2;s01/0;", "n1;s0/00;", "n1;s0/01;", "n1;f00/0;", "n2;f01/0;", "n1;f0/00;",
            "n1;f0/07;", "n1;00-0:11/1;", "n2;01-0:11/1;", "n1;0-00:11/1;", "n2;0-01:11/1;", "n1;0-0:11/00;", "n1;0-0:11/01;");
    }

    private static void parseLabelDigits() {
        check.sentence("Parsing: a label is one digit");
        for (int labels = 0; labels < 64; labels++) {
            String text = "n1;0-0:" + labels / 8 + labels % 8 + "/5;";
            parsed(text, text);
        }
        faults(SYNTAX, "n1;0-0:/1;", "n1;0-0:1/1;", "n1;0-0:111/1;", "n1;0-0:011/1;", "n1;0-0:119/1;", "n1;0-0:1,1/1;",
            "n1;0-0:x1/1;", "n1;0-0:1x/1;", "n1;0-0:1", "n1;0-0:", "n1;0-0:11");
    }

    private static void parseStatesAbove() {
        check.sentence("Parsing: RANGE a number of states above 16");
        parsed("n16;", "n16;");
        parsed("n0;", "n0;");
        faults(RANGE, "n17;", "n20;", "n99;", "n160;", "n4294967296;", "n4294967298;", "n9999999999;");
    }

    private static void parseNoState() {
        check.sentence("Parsing: RANGE a state that there is none");
        parsed("n16;s15/0;f15/0;15-15:11/1;", "n16;s15/0;f15/0;15-15:11/1;");
        faults(RANGE, "n0;s0/0;", "n0;f0/0;", "n0;0-0:11/1;", "n1;s1/0;", "n1;f1/0;", "n1;1-0:11/1;", "n1;0-1:11/1;",
            "n16;s16/0;", "n16;f16/0;", "n16;16-0:11/1;", "n16;0-16:11/1;", "n16;s4294967296/0;", "n16;f4294967296/0;",
            "n16;4294967296-0:11/1;", "n16;0-4294967296:11/1;");
    }

    private static void parseLabelAbove() {
        check.sentence("Parsing: RANGE a label above 7");
        parsed("n1;0-0:77/1;", "n1;0-0:77/1;");
        faults(RANGE, "n1;0-0:80/1;", "n1;0-0:90/1;", "n1;0-0:08/1;", "n1;0-0:09/1;", "n1;0-0:88/1;");
    }

    private static void parseWeightAbove() {
        check.sentence("Parsing: RANGE a weight above 1000000000");
        parsed("n1;s0/1000000000;", "n1;s0/1000000000;");
        parsed("n1;f0/1000000000;", "n1;f0/1000000000;");
        parsed("n1;0-0:11/1000000000;", "n1;0-0:11/1000000000;");
        for (String weight : new String[] {"1000000001", "2000000000", "2147483648", "4294967296", "4294967297", "9999999999"}) {
            faults(RANGE, "n1;s0/" + weight + ";", "n1;f0/" + weight + ";", "n1;0-0:11/" + weight + ";",
                "n1;0-0:11/1;0-0:11/" + weight + ";");
        }
    }

    private static void parseSecondStart() {
        check.sentence("Parsing: TWICE a second start");
        faults(TWICE, "n1;s0/0;s0/0;", "n2;s0/0;s1/0;", "n2;s1/3;f0/1;0-1:11/1;s0/4;");
        parsed("n2;s1/3;f1/1;", "n2;s1/3;f1/1;");
    }

    private static void parseSecondEnd() {
        check.sentence("Parsing: TWICE a second end weight for a state");
        faults(TWICE, "n1;f0/0;f0/0;", "n2;f1/5;f0/1;f1/4;", "n16;f15/0;s1/3;0-1:11/1;f15/0;");
        parsed("n2;f1/3;f0/3;", "n2;f0/3;f1/3;");
        parsed("n12;f1/3;f11/3;", "n12;f1/3;f11/3;");
    }

    private static void parseArcAgain() {
        check.sentence("Parsing: where an arc comes that is there already but for its weight, there is one of the lesser weight");
        parsed("n2;0-1:12/3;0-1:12/3;", "n2;0-1:12/3;");
        parsed("n2;0-1:12/3;0-1:12/2;0-1:12/4;", "n2;0-1:12/2;");
        parsed("n2;0-1:12/3;0-1:21/2;1-0:12/4;0-1:12/0;", "n2;0-1:12/0;0-1:21/2;1-0:12/4;");
        String full = Machines.allPairs(2, 9);
        parsed(full + "0-0:77/8;0-0:77/9;", full.replace("0-0:77/9;", "0-0:77/8;"));
        fault(full + "0-0:77/8;0-1:77/8;", FULL);
    }

    private static void parseFull() {
        check.sentence("Parsing: FULL a 65th arc");
        String full = Machines.allPairs(2, 9);
        parsed(full, full);
        faults(FULL, full + "0-1:00/0;", full + "1-1:77/9;", full + "1-1:77/9;1-1:76/9;");
        parsed(full + "s1/0;f1/2;", full.replace("n2;", "n2;s1/0;f1/2;"));
    }

    private static void parseFirstFault() {
        check.sentence("Parsing: the first fault that is met is the answer");
        fault("n17;x", RANGE);
        fault("n1;x;s1/0;", SYNTAX);
        fault("n1;s0/0;s0/0;s1/0;x", TWICE);
        fault("n1;s1/0;s0/0;s0/0;", RANGE);
        fault("n1;s0/0;x;s0/0;", SYNTAX);
        fault("n1;0-0:18/2000000000;", RANGE);
        fault(Machines.allPairs(2, 9) + "1-1:00/1;n17;", FULL);
        fault(Machines.allPairs(2, 9) + "n17;1-1:00/1;", SYNTAX);
        fault(Machines.allPairs(2, 9) + "s2/0;1-1:00/1;", RANGE);
        fault(Machines.allPairs(2, 9) + "s0/0;s0/0;1-1:00/1;", TWICE);
    }

    private static void parseSyntaxWhereItStands() {
        check.sentence("Parsing: SYNTAX at the character (or the end) where nothing can go on as said");
        faults(SYNTAX, "n1;s0:1000000001;", "n1;s,1/0;", "n1;0+9:11/1;", "n1;0-0;99/1;", "n1;0-0:1/9999999999;", "n1x7;",
            "n1;f0/0;f", "n1;s0/0;s", "n1;s0/0;s/", "n1;0-0:", "n1;0-");
    }

    private static void parseDigitTooMuch() {
        check.sentence("Parsing: a digit behind the tenth one of a number, or behind a 0 that begins one, is that (SYNTAX), "
            + "whatever the number is");
        faults(SYNTAX, "n12345678901", "n99999999999;", "n42949672961", "n017", "n00000000001;", "n1;s99999999999", "n1;s017/0;",
            "n1;s0/0;s00/0;", "n1;f0/0;f00", "n1;s0/99999999999", "n1;s0/09999999999;", "n1;99999999999", "n1;0-09",
            "n1;0-0:11/10000000000", "n1;0-0:11/99999999999;");
        faults(RANGE, "n9999999999", "n9999999999x", "n1;s9999999999x", "n1;0-0:11/9999999999x");
    }

    private static void parseRangeWhereItEnds() {
        check.sentence("Parsing: RANGE, before what stands behind it is looked at further, where a number or a label ends");
        faults(RANGE, "n17", "n17x", "n17 ", "n17n", "n0;s0", "n0;f0", "n0;0", "n1;s1", "n1;s1x", "n1;s1;", "n1;f1", "n1;f1-",
            "n1;1", "n1;1x", "n1;1:", "n1;0-1", "n1;0-1x", "n1;0-1-", "n1;0-0:8", "n1;0-0:8x", "n1;0-0:8/", "n1;0-0:88",
            "n1;0-0:18", "n1;0-0:18x", "n1;0-0:188", "n1;0-0:11/1000000001", "n1;0-0:11/1000000001x", "n1;s0/1000000001",
            "n1;s0/1000000001/", "n1;f0/1000000001", "n1;f0/1000000001n");
    }

    private static void parseTwiceWhereItEnds() {
        check.sentence("Parsing: TWICE where the state's number ends (after RANGE)");
        faults(TWICE, "n1;s0/0;s0", "n1;s0/0;s0x", "n1;s0/0;s0;", "n2;s0/0;s1/1000000001;", "n1;s0/0;s0/x", "n1;f0/0;f0",
            "n1;f0/0;f0x", "n1;f0/0;f0;", "n1;f0/0;f0/1000000001;", "n2;f1/0;f0/0;f1/");
        faults(RANGE, "n1;s0/0;s1", "n1;s0/0;s1/0;", "n1;f0/0;f1", "n1;f0/0;f1/0;");
        faults(SYNTAX, "n1;s0/0;s00", "n1;s0/0;s", "n1;s0/0;sx", "n1;f0/0;f00", "n1;f0/0;f", "n1;f0/0;fx");
    }

    private static void parseFullAtSemicolon() {
        check.sentence("Parsing: FULL where the arc's semicolon stands");
        String full = Machines.allPairs(2, 9);
        faults(SYNTAX, full + "1-1:77/9", full + "1-1:77/9x", full + "1-1:77/", full + "1-1:77", full + "1-", full + "1");
        faults(RANGE, full + "1-1:77/1000000001;", full + "1-1:78/1;", full + "1-2:77/1;", full + "2-1:77/1;");
        faults(FULL, full + "1-1:77/9;", full + "1-1:77/9;x", full + "1-1:77/9;s2/0;");
    }

    private static void parseLongest() {
        check.sentence("Parsing: a text of 1600 characters is parsed to its end");
        StringBuilder text = new StringBuilder("n16;0-0:11/1000;");
        while (text.length() < 1600) {
            text.append("0-0:11/7;");
        }
        check.due("the test's own text", text.length(), 1600);
        parsed(text.toString(), "n16;0-0:11/7;");
        parsed(text.substring(0, 1591) + "1-1:22/3;", "n16;0-0:11/7;1-1:22/3;");
        fault(text.substring(0, 1599), SYNTAX);
        fault(text.substring(0, 1599) + ":", SYNTAX);
        fault(text.substring(0, 1598) + "8x", SYNTAX);
        fault(text.substring(0, 1591) + "16-0:11/1", RANGE);
    }

    private static void parseTextStays() {
        check.sentence("18: The text (which stays)");
        Run x = new Run();
        check.due("parsed", Machines.parse(x, 0, ALL_KINDS), 2);
        check.due("it stays", Machines.text(x), ALL_KINDS);
        check.due("parsed again", x.parse(1), 2);
        check.due("the same", Machines.show(x, 1), ALL_KINDS);
        x.feed('x', 1);
        check.due("not parsed", x.parse(1), SYNTAX);
        check.due("it stays too", Machines.text(x), ALL_KINDS + "x");
    }

    private static void parseAnswers() {
        check.sentence("18: Answers how many arcs it has");
        Run x = new Run();
        check.due("none", Machines.parse(x, 0, "n2;s0/3;f1/4;"), 0);
        check.due("one of two that are the same", Machines.parse(x, 0, "n2;0-1:11/3;0-1:11/4;"), 1);
        check.due("64", Machines.parse(x, 0, Machines.allPairs(1, 0)), 64);
    }

    private static void parseNoSlot() {
        check.sentence("18: NONE when there is no such slot");
        for (String text : new String[] {"n1;", "", "n17;"}) {
            Run x = new Run();
            Machines.feed(x, text);
            for (int slot : NO_SLOTS) {
                check.due("parse(" + slot + ") of " + text, x.parse(slot), NONE);
            }
        }
    }

    private static void feedOrder() {
        check.sentence("19: Appends the n lowest bytes of a long to the text, as characters, the highest first");
        for (int n = 1; n <= 8; n++) {
            Run x = fed(3);
            check.due("n = " + n, x.feed(EIGHT, n), 3 + n);
            check.due("n = " + n + ": the text", Machines.text(x), "zzz" + "ABCDEFGH".substring(8 - n));
        }
        Run x = new Run();
        check.due("bytes above do not count", x.feed(0x0102030405060741L, 1), 1);
        check.due("nor when the long is below 0", x.feed(-1L << 56 | EIGHT, 7), 8);
        check.due("the text", Machines.text(x), "ABCDEFGH");
    }

    private static void feedNoNumber() {
        check.sentence("19: NONE when n is not 1 .. 8");
        Run x = fed(5);
        for (int n : new int[] {-1, -8, 9, 16, 256, 1 << 29 | 1, LOWEST, LOWEST | 1, HIGHEST}) {
            check.due("n = " + n, x.feed(EIGHT, n), NONE);
        }
    }

    private static void feedNoCode() {
        check.sentence("19: NONE when one is not 32 .. 126");
        Run x = fed(5);
        for (int code : new int[] {0, 1, 10, 31, 127, 128, 160, 254, 255}) {
            for (int n = 1; n <= 8; n++) {
                for (int at = 0; at < n; at++) {
                    long one = EIGHT & ~(255L << 8 * at) | (long) code << 8 * at;
                    check.due("code " + code + " at " + at + " of " + n, new Run().feed(one, n), NONE);
                }
            }
        }
        check.due("0 is no character", x.feed(0, 1), NONE);
        check.due("-1 is none", x.feed(-1, 8), NONE);
        check.due("the highest byte is one", x.feed(EIGHT | Long.MIN_VALUE, 8), NONE);
        check.due("the least and the greatest", x.feed(' ' << 8 | '~', 2), 7);
    }

    private static void feedTooMany() {
        check.sentence("19: NONE when there would be more than 1600");
        for (int n = 1; n <= 8; n++) {
            check.due("1600 by " + n, fed(1600 - n).feed(EIGHT, n), 1600);
            check.due("1601 by " + n, fed(1601 - n).feed(EIGHT, n), NONE);
            check.due("more by " + n, fed(1600).feed(EIGHT, n), NONE);
        }
    }

    private static void feedNone() {
        check.sentence("19: For n = 0 the text becomes empty, and the answer is 0");
        for (long characters : new long[] {0, -1, EIGHT, Long.MIN_VALUE}) {
            Run x = fed(1600);
            check.due("feed(" + characters + ", 0)", x.feed(characters, 0), 0);
            check.due("no text", x.letter(0), NONE);
            check.due("again", x.feed(characters, 0), 0);
            check.due("and fed", x.feed('A', 1), 1);
        }
    }

    private static void letterNone() {
        check.sentence("20: NONE when there is none");
        Run x = new Run();
        check.due("letter(0) of no text", x.letter(0), NONE);
        x.feed('a' << 8 | '~', 2);
        check.due("letter(0)", x.letter(0), 'a');
        check.due("letter(1)", x.letter(1), '~');
        for (int i : new int[] {-1, 2, 1599, 1600, LOWEST, HIGHEST}) {
            check.due("letter(" + i + ")", x.letter(i), NONE);
        }
        x.feed(0, 0);
        check.due("letter(0) of what was", x.letter(0), NONE);
        check.due("letter(1600) of a full text", fed(1600).letter(1600), NONE);
    }
}
