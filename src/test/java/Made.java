import java.util.function.ToIntFunction;

/**
 * What the calls of promises 6 to 10 make of machines that are told as texts: its print, or the
 * answer of a call that is refused. In passing: the answer is the number that the promise says,
 * what is given stays, and so does everything when the call is refused.
 */
final class Made {
    private static final String OLD = "n1;s0/9;f0/9;0-0:77/9;";
    private static final int STATES = 0;
    private static final int ARCS = 1;
    private final Check check;

    Made(Check check) {
        this.check = check;
    }

    String composed(String a, String b) {
        return made("compose", a, b, x -> x.compose(0, 1, 2), STATES);
    }

    String bared(String a) {
        return made("bare", a, OLD, x -> x.bare(0, 2), ARCS);
    }

    String determined(String a) {
        return made("determine", a, OLD, x -> x.determine(0, 2), STATES);
    }

    String pushed(String a) {
        return made("push", a, OLD, x -> x.push(0, 2), ARCS);
    }

    String trimmed(String a) {
        return made("trim", a, OLD, x -> x.trim(0, 2), STATES);
    }

    private String made(String name, String a, String b, ToIntFunction<Run> call, int what) {
        Run x = new Run();
        Machines.set(x, 0, a);
        Machines.set(x, 1, b);
        Machines.set(x, 2, OLD);
        String given = Machines.show(x, 0) + Machines.show(x, 1) + Machines.show(x, 3) + Machines.text(x);
        int answer = call.applyAsInt(x);
        check.due(name + " leaves what is given, and the text, of " + a,
            Machines.show(x, 0) + Machines.show(x, 1) + Machines.show(x, 3) + Machines.text(x), given);
        if (answer < 0) {
            check.due(name + " is refused, and changes nothing, of " + a, Machines.show(x, 2), OLD);
            return "" + answer;
        }
        check.due(name + " of " + a, answer, x.count(2, what));
        return Machines.show(x, 2);
    }
}
