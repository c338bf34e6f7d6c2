public final class Promise01NewObjectTest {
    private static final String FRESH = Check.tale(new DepotLog());

    public static void main(String[] args) {
        Check check = new Check();
        DepotLog x = new DepotLog();
        check.same("minute", x.minute(), 0);
        check.same("leader", x.leader(), DepotLog.NONE);
        check.same("runs", x.runs(), 0);
        check.same("orders", x.orders(), 0);
        for (int k = 0; k < 5; k++) {
            check.same("charge of bus " + k, x.charge(k), 100);
            check.same("promised of bus " + k, x.promised(k), 0);
            check.same("minutes of driver " + k, x.minutesOf(k, 0), 0);
            check.same("bus " + k + " was broken", x.breaks(k, false), false);
            check.same("driver " + k + " was ill", x.ails(k, false), false);
        }
        check.same("charger 0 is free", x.plug(0, 0), DepotLog.NONE);
        check.same("charger 1 is free", x.plug(1, 1), DepotLog.NONE);
        objectsShareNothing(check);
        check.end();
    }

    private static void objectsShareNothing(Check check) {
        DepotLog used = new DepotLog();
        used.run(10, 10, 10);
        used.lead(1, 100);
        used.order(1, 7, 0, 2, 3);
        used.breaks(4, true);
        used.ails(4, true);
        used.plug(0, 1);
        used.advance(15);
        check.same("a new object beside a used one", Check.tale(new DepotLog()), FRESH);
    }
}
