/** The example of README.md answers what is written beside it. */
public final class ExampleTest {
    public static void main(String[] args) {
        Check check = new Check();
        Run x = new Run();
        check.due("fresh", x.fresh(0, 2), true);
        check.due("start", x.start(0, 0, 1), true);
        check.due("end", x.end(0, 1, 2), true);
        check.due("arc", x.arc(0, 0, 1, 8 * 3 + 4, 5), 1);
        check.due("weigh", x.weigh(0, 3, 4), 8);
        check.due("best", x.best(0), 8);
        check.due("the best path", Machines.path(x), "0-1:34/5;");
        check.due("print", x.print(0), 22);
        check.due("the text", Machines.text(x), "n2;s0/1;f1/2;0-1:34/5;");
        check.due("parse", x.parse(1), 1);
        check.due("arc", x.arc(1, 0, 1, 8 * 4 + 7, 0), 2);
        check.due("compose", x.compose(0, 1, 2), 2);
        check.due("weigh", x.weigh(2, 3, 7), 11);
        check.due("arc that is refused", x.arc(2, 0, 9, 0, 0), WeighedMachines.NONE);
        check.finish();
    }
}
