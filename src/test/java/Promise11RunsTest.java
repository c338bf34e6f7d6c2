public final class Promise11RunsTest {
    public static void main(String[] args) {
        Check check = new Check();
        DepotLog x = new DepotLog();
        check.same("at first", x.runs(), 0);
        for (int k = 0; k < 30; k++) {
            x.run(10 + k, 5, 5);
            check.same("after run " + k, x.runs(), k + 1);
        }
        Check.thrownBy(() -> x.run(10, 5, 5));
        check.same("a run too many", x.runs(), 30);
        x.lead(0, 10);
        x.order(0, 0, 0, 0, 0);
        x.advance(100);
        check.same("runs that are done or lost count", x.runs(), 30);
        DepotLog y = new DepotLog();
        Check.thrownBy(() -> y.run(0, 5, 5));
        check.same("a wrong run", y.runs(), 0);
        check.end();
    }
}
