import java.util.Random;

/** Runs of chosen calls on the program and on the reference: the answers and all that can be seen are the same. */
public final class ReferenceTest {
    private static final int RUNS = 3000;
    private static final int CALLS = 60;
    /** A call of a run may stand for some two hundred, and a run is to be far from its 512th one. */
    private static final int MOST_CHANGES = 180;
    private static final long[] LARGE = {1000000000L, 999999999L, 500000000L, 499999999L, 1L, 0L};

    private final Check check;
    private final Random random;
    private final int run;
    private final Run x = new Run();
    private final Reference y = new Reference();

    private ReferenceTest(Check check, int run) {
        this.check = check;
        this.run = run;
        random = new Random(run);
    }

    public static void main(String[] args) {
        Check check = new Check();
        int runs = args.length > 0 ? Integer.parseInt(args[0]) : RUNS;
        for (int run = 0; run < runs && !check.isAnyWrong(); run++) {
            new ReferenceTest(check, run).go();
        }
        check.finish();
    }

    private void go() {
        for (int k = 0; k < CALLS && x.changes() < MOST_CHANGES && !check.isAnyWrong(); k++) {
            String before = y.all();
            String call = call();
            if (check.isAnyWrong()) {
                System.out.println("run " + run + ", before:\n" + before);
                return;
            }
            check.due("run " + run + ": all after " + call + " on\n" + before + "\n", Machines.all(x), y.all());
        }
    }

    private int slot() {
        return random.nextInt(60) == 0 ? random.nextBoolean() ? -1 : 4 : random.nextInt(4);
    }

    private int weight() {
        int kind = run % 4;
        if (random.nextInt(80) == 0) {
            return random.nextBoolean() ? -1 : 1000000001;
        }
        if (kind == 3 || kind == 2 && random.nextInt(8) == 0) {
            return (int) LARGE[random.nextInt(LARGE.length)];
        }
        return random.nextInt(kind == 0 ? 2 : 20);
    }

    private String call() {
        for (int a = 0; a < 4; a++) {
            if (y.slots[a].arcs.isEmpty() && random.nextBoolean()) {
                return fill(a);
            }
        }
        switch (random.nextInt(20)) {
            case 0: case 1:
                return fill(slot());
            case 2: case 3: case 4: {
                int a = slot();
                int b = slot();
                int c = slot();
                return due("compose(" + a + ", " + b + ", " + c + ")", x.compose(a, b, c), y.compose(a, b, c));
            }
            case 5: case 6: {
                int a = slot();
                int c = slot();
                return due("bare(" + a + ", " + c + ")", x.bare(a, c), y.bare(a, c));
            }
            case 7: case 8: {
                int a = slot();
                int c = slot();
                return due("determine(" + a + ", " + c + ")", x.determine(a, c), y.determine(a, c));
            }
            case 9: case 10: {
                int a = slot();
                int c = slot();
                return due("push(" + a + ", " + c + ")", x.push(a, c), y.push(a, c));
            }
            case 11: {
                int a = slot();
                int c = slot();
                return due("trim(" + a + ", " + c + ")", x.trim(a, c), y.trim(a, c));
            }
            case 12: case 13: {
                int a = slot();
                int[] rows = random.nextInt(4) == 0 ? new int[] {row(), row()} : walk(a);
                String call = "weigh(" + a + ", " + rows[0] + ", " + rows[1] + ")";
                return due(call, x.weigh(a, rows[0], rows[1]), y.weigh(a, rows[0], rows[1]));
            }
            case 14: case 15: {
                int a = slot();
                return due("best(" + a + ")", x.best(a), y.best(a));
            }
            case 16: {
                int a = slot();
                return due("print(" + a + ")", x.print(a), y.print(a));
            }
            case 17:
                return spoil();
            case 18: {
                int a = slot();
                return due("parse(" + a + ")", x.parse(a), y.parse(a));
            }
            default:
                return set();
        }
    }

    private String due(String call, long got, long want) {
        check.due("run " + run + ": " + call, got, want);
        return call;
    }

    private String due(String call, boolean got, boolean want) {
        return due(call, got ? 1 : 0, want ? 1 : 0);
    }

    private int row() {
        int length = random.nextInt(random.nextInt(6) == 0 ? 10 : 4);
        int row = 0;
        for (int k = 0; k < length; k++) {
            row = 10 * row + (random.nextInt(60) == 0 ? random.nextInt(10) : 1 + random.nextInt(run % 3 + 1));
        }
        return random.nextInt(60) == 0 ? -row : row;
    }

    /** What some way from the start reads and writes. */
    private int[] walk(int a) {
        int[] rows = new int[2];
        int q = a >= 0 && a < 4 ? y.slots[a].start : -1;
        for (int k = random.nextInt(10); k > 0 && q >= 0; k--) {
            var arcs = y.slots[a].arcsOf(q);
            if (arcs.isEmpty()) {
                break;
            }
            Reference.Arc arc = arcs.get(random.nextInt(arcs.size())).getKey();
            rows[0] = arc.in() == 0 ? rows[0] : 10 * rows[0] + arc.in();
            rows[1] = arc.out() == 0 ? rows[1] : 10 * rows[1] + arc.out();
            q = arc.to();
        }
        return rows;
    }

    private String set() {
        int a = slot();
        int q = random.nextInt(8) - 1;
        int w = weight();
        switch (random.nextInt(4)) {
            case 0:
                return due("start(" + a + ", " + q + ", " + w + ")", x.start(a, q, w), y.start(a, q, w));
            case 1:
                return due("end(" + a + ", " + q + ", " + w + ")", x.end(a, q, w), y.end(a, q, w));
            default:
                return arc(a, q, random.nextInt(8) - 1, random.nextInt(66) - 1);
        }
    }

    private String arc(int a, int from, int to, int labels) {
        int w = weight();
        String call = "arc(" + a + ", " + from + ", " + to + ", " + labels + ", " + w + ")";
        return due(call, x.arc(a, from, to, labels, w), y.arc(a, from, to, labels, w));
    }

    /** A new machine: a transducer, or an acceptor without a way round. */
    private String fill(int a) {
        int n = random.nextInt(random.nextInt(3) == 0 ? 18 : 6);
        StringBuilder calls = new StringBuilder(due("fresh(" + a + ", " + n + ")", x.fresh(a, n), y.fresh(a, n)));
        if (n == 0 || n > 16) {
            return calls.toString();
        }
        int arcs = random.nextInt(random.nextInt(5) == 0 ? 80 : 4 * n);
        int kinds = 1 + random.nextInt(random.nextInt(5) == 0 ? 7 : 3);
        boolean acceptor = random.nextInt(3) == 0;
        boolean down = random.nextBoolean();
        for (int k = 0; k < arcs; k++) {
            int from = random.nextInt(n);
            int to = random.nextInt(n);
            if (!acceptor) {
                calls.append(arc(a, from, to, 8 * random.nextInt(kinds + 1) + random.nextInt(kinds + 1)));
            } else if (from != to) {
                boolean turn = down == from < to;
                calls.append(arc(a, turn ? to : from, turn ? from : to, 9 * (1 + random.nextInt(kinds))));
            }
        }
        if (random.nextInt(12) != 0) {
            int q = !acceptor ? random.nextInt(n) : down ? n - 1 : 0;
            int w = weight();
            calls.append(due("start", x.start(a, q, w), y.start(a, q, w)));
        }
        for (int k = random.nextInt(6); k > 0; k--) {
            int q = random.nextInt(n);
            int w = weight();
            calls.append(due("end", x.end(a, q, w), y.end(a, q, w)));
        }
        return calls.toString();
    }

    /** Prints a machine, spoils some characters of it, feeds it, and parses it. */
    private String spoil() {
        int a = random.nextInt(4);
        StringBuilder text = new StringBuilder(y.slots[a].show());
        String signs = "nsf0123456789-:/;01;; x";
        for (int k = random.nextInt(4); k > 0; k--) {
            int at = random.nextInt(text.length());
            char sign = signs.charAt(random.nextInt(signs.length()));
            switch (random.nextInt(5)) {
                case 0:
                    text.setCharAt(at, sign);
                    break;
                case 1:
                    text.insert(at, sign);
                    break;
                case 2:
                    text.deleteCharAt(at).append(';');
                    break;
                case 3:
                    text.setLength(at + 1);
                    break;
                default:
                    text.append(new String[] {"s0/0;", "f0/3;", "0-0:11/2;", "0-1:77/1000000001;", "1-0:08/3;"}[random.nextInt(5)]);
            }
        }
        due("feed(0, 0)", x.feed(0, 0), y.feed(0, 0));
        for (int at = 0; at < text.length(); at += 8) {
            long characters = random.nextLong();
            int n = Math.min(8, text.length() - at);
            for (int i = 0; i < n; i++) {
                characters = characters << 8 | text.charAt(at + i);
            }
            due("feed(" + characters + ", " + n + ")", x.feed(characters, n), y.feed(characters, n));
        }
        int c = slot();
        return due("parse(" + c + ") of " + text, x.parse(c), y.parse(c));
    }
}
