public final class Promise13OrderAtTest {
    public static void main(String[] args) {
        Check check = new Check();
        DepotLog x = made();
        check.same("the first", x.orderAt(0), 1 * 100 + 4 * 10 + 3);
        check.same("the second", x.orderAt(1), 0);
        check.same("the third", x.orderAt(2), 2 * 100 + 1 * 10 + 2);
        x.breaks(4, true);
        check.same("as it was ordered, though it waits", x.orderAt(0), 143);
        x.order(0, 9, 1, 3, 3);
        check.same("the first, when it is ordered anew", x.orderAt(0), 143);
        check.same("ordered anew", x.orderAt(3), 133);
        x.advance(15);
        x.breaks(0, true);
        x.ails(0, true);
        check.same("as it was ordered, though it goes by others", x.orderAt(1), 0);
        int[] none = {3, -1, 999, 1000, Integer.MIN_VALUE, Integer.MAX_VALUE};
        for (int order : none) {
            check.refused("order " + order, IndexOutOfBoundsException.class, Promise13OrderAtTest::made, y -> y.orderAt(order));
        }
        check.refused("no orders", IndexOutOfBoundsException.class, DepotLog::new, y -> y.orderAt(0));
        lastRun(check);
        check.end();
    }

    private static DepotLog made() {
        DepotLog x = new DepotLog();
        x.lead(0, 100);
        x.run(10, 15, 5);
        x.run(30, 5, 5);
        x.run(50, 5, 5);
        x.order(0, 700, 1, 4, 3);
        x.order(0, 20, 0, 0, 0);
        x.order(0, 30, 2, 1, 2);
        return x;
    }

    private static void lastRun(Check check) {
        DepotLog x = new DepotLog();
        x.lead(1, 100);
        for (int k = 0; k < 30; k++) {
            x.run(10, 5, 5);
        }
        x.order(1, 0, 29, 4, 4);
        check.same("the highest of all", x.orderAt(0), 2944);
    }
}
