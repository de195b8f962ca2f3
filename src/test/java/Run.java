import java.util.ArrayList;
import java.util.List;

/**
 * An object with the calls that it has had. Nothing is promised after the 512th call: a used-up
 * object is left for a new one that has had the same calls, but for those that only look.
 */
final class Run {
    private static final int MOST_CALLS = 512;
    private static final int MOST_CHANGES = 448;

    private interface Call {
        long on(WeighedMachines x);
    }

    private final List<Call> changes = new ArrayList<>();
    private WeighedMachines x = new WeighedMachines();
    private int used;

    /** How many calls it has had that may have changed it. */
    int changes() {
        return changes.size();
    }

    private long look(Call call) {
        if (used == MOST_CALLS) {
            renew();
        }
        used++;
        return call.on(x);
    }

    private long change(Call call) {
        long answer = look(call);
        changes.add(call);
        return answer;
    }

    private void renew() {
        if (changes.size() > MOST_CHANGES) {
            throw new IllegalStateException("the test's own run is too long to be looked at");
        }
        x = new WeighedMachines();
        used = changes.size();
        changes.forEach(call -> call.on(x));
    }

    boolean fresh(int slot, int n) {
        return change(x -> x.fresh(slot, n) ? 1 : 0) == 1;
    }

    boolean start(int slot, int q, int w) {
        return change(x -> x.start(slot, q, w) ? 1 : 0) == 1;
    }

    boolean end(int slot, int q, int w) {
        return change(x -> x.end(slot, q, w) ? 1 : 0) == 1;
    }

    int arc(int slot, int from, int to, int labels, int w) {
        return (int) change(x -> x.arc(slot, from, to, labels, w));
    }

    int compose(int a, int b, int c) {
        return (int) change(x -> x.compose(a, b, c));
    }

    int bare(int a, int c) {
        return (int) change(x -> x.bare(a, c));
    }

    int determine(int a, int c) {
        return (int) change(x -> x.determine(a, c));
    }

    int push(int a, int c) {
        return (int) change(x -> x.push(a, c));
    }

    int trim(int a, int c) {
        return (int) change(x -> x.trim(a, c));
    }

    long weigh(int slot, int read, int written) {
        return look(x -> x.weigh(slot, read, written));
    }

    long best(int slot) {
        return change(x -> x.best(slot));
    }

    int step(int k, int what) {
        return (int) look(x -> x.step(k, what));
    }

    int count(int slot, int what) {
        return (int) look(x -> x.count(slot, what));
    }

    int part(int slot, int k, int what) {
        return (int) look(x -> x.part(slot, k, what));
    }

    int endOf(int slot, int q) {
        return (int) look(x -> x.endOf(slot, q));
    }

    int print(int slot) {
        return (int) change(x -> x.print(slot));
    }

    int parse(int slot) {
        return (int) change(x -> x.parse(slot));
    }

    int feed(long characters, int n) {
        return (int) change(x -> x.feed(characters, n));
    }

    int letter(int i) {
        return (int) look(x -> x.letter(i));
    }
}
