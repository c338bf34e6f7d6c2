public final class Promise12OrdersTest {
    public static void main(String[] args) {
        Check check = new Check();
        DepotLog x = new DepotLog();
        check.same("at first", x.orders(), 0);
        x.run(10, 5, 5);
        x.run(30, 5, 5);
        check.same("runs are no orders", x.orders(), 0);
        Check.thrownBy(() -> x.order(0, 0, 0, 0, 0));
        check.same("an order refused", x.orders(), 0);
        x.lead(0, 100);
        x.order(0, 0, 0, 0, 0);
        check.same("one", x.orders(), 1);
        x.order(1, 0, 1, 1, 1);
        check.same("a double order", x.orders(), 1);
        x.order(0, 1, 1, 1, 1);
        check.same("two", x.orders(), 2);
        x.breaks(1, true);
        x.ails(0, true);
        check.same("the log keeps what was taken back", x.orders(), 2);
        x.order(0, 2, 1, 0, 1);
        check.same("ordered anew", x.orders(), 3);
        x.advance(100);
        check.same("the log keeps what is done", x.orders(), 3);
        check.end();
    }
}
