/** What the tests do again and again with the class: telling machines as texts and looking at them. */
final class Machines {
    /** Far above what the document lets be, so that a faulty object cannot keep a test going. */
    private static final int MOST_LETTERS = 2000;
    private static final int MOST_STEPS = 100;

    private Machines() {
    }

    /** Feeds a text whole; answers the last answer. */
    static int feed(Run x, String text) {
        int answer = x.feed(0, 0);
        for (int at = 0; at < text.length(); at += 8) {
            String piece = text.substring(at, Math.min(at + 8, text.length()));
            long characters = 0;
            for (int i = 0; i < piece.length(); i++) {
                characters = characters << 8 | piece.charAt(i);
            }
            answer = x.feed(characters, piece.length());
        }
        return answer;
    }

    static int parse(Run x, int slot, String text) {
        feed(x, text);
        return x.parse(slot);
    }

    /** Parses a text that has no fault. */
    static void set(Run x, int slot, String text) {
        if (parse(x, slot, text) < 0) {
            throw new IllegalArgumentException("the test's own text is at fault: " + text);
        }
    }

    static String text(Run x) {
        StringBuilder letters = new StringBuilder();
        int code = x.letter(0);
        while (code != WeighedMachines.NONE && letters.length() <= MOST_LETTERS) {
            letters.append((char) code);
            code = x.letter(letters.length());
        }
        return letters.toString();
    }

    /** The machine in the print's form, but told by count, part and endOf: the text stays. */
    static String show(Run x, int slot) {
        StringBuilder told = new StringBuilder("n" + x.count(slot, 0) + ";");
        if (x.count(slot, 3) != WeighedMachines.NONE) {
            told.append("s" + x.count(slot, 3) + "/" + x.count(slot, 4) + ";");
        }
        for (int q = 0; q < x.count(slot, 0); q++) {
            if (x.endOf(slot, q) != WeighedMachines.NONE) {
                told.append("f" + q + "/" + x.endOf(slot, q) + ";");
            }
        }
        for (int k = 0; k < x.count(slot, 1); k++) {
            told.append(x.part(slot, k, 0) + "-" + x.part(slot, k, 1) + ":");
            told.append(x.part(slot, k, 2) + "" + x.part(slot, k, 3) + "/" + x.part(slot, k, 4) + ";");
        }
        return told.toString();
    }

    /** The best path that is kept, as arcs in the print's form. */
    static String path(Run x) {
        StringBuilder told = new StringBuilder();
        for (int k = 0; k < MOST_STEPS && x.step(k, 0) != WeighedMachines.NONE; k++) {
            told.append(x.step(k, 0) + "-" + x.step(k, 1) + ":");
            told.append(x.step(k, 2) + "" + x.step(k, 3) + "/" + x.step(k, 4) + ";");
        }
        return told.toString();
    }

    /** All that can be seen of an object. */
    static String all(Run x) {
        StringBuilder told = new StringBuilder();
        for (int slot = 0; slot < 4; slot++) {
            told.append(show(x, slot)).append('\n');
        }
        return told.append(text(x)).append('\n').append(path(x)).toString();
    }

    /** 64 arcs of one state to itself, all label pairs. */
    static String allPairs(int states, long weight) {
        StringBuilder told = new StringBuilder("n" + states + ";");
        for (int labels = 0; labels < 64; labels++) {
            told.append("0-0:" + labels / 8 + labels % 8 + "/" + weight + ";");
        }
        return told.toString();
    }
}
