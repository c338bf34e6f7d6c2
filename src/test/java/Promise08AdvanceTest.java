import java.util.function.Supplier;

public final class Promise08AdvanceTest {
    public static void main(String[] args) {
        Check check = new Check();
        starts(check);
        ends(check);
        loadsFirst(check);
        endsBeforeStarts(check);
        oneByOne(check);
        wrong(check);
        check.end();
    }

    private static void starts(Check check) {
        DepotLog x = new DepotLog();
        x.lead(0, 1000);
        x.run(10, 60, 40);
        x.run(10, 60, 40);
        x.run(11, 60, 40);
        x.order(0, 0, 0, 3, 2);
        x.plug(3, 0);
        check.same("the minute then", x.advance(9), 9);
        check.same("ordered still", x.stateOf(0), DepotLog.ORDERED);
        check.same("waits still", x.stateOf(1), DepotLog.WAITS);
        check.same("promised still", x.promised(3), 40);
        check.same("the minute of the start", x.advance(1), 10);
        check.same("goes", x.stateOf(0), DepotLog.GOES);
        check.same("bus", x.busOf(0), 3);
        check.same("driver", x.driverOf(0), 2);
        check.same("charge", x.charge(3), 60);
        check.same("promised", x.promised(3), 0);
        check.same("without an order, lost", x.stateOf(1), DepotLog.LOST);
        check.same("no bus", x.busOf(1), DepotLog.NONE);
        check.same("no driver", x.driverOf(1), DepotLog.NONE);
        check.same("that of the next minute waits", x.stateOf(2), DepotLog.WAITS);
        check.same("the bus left its charger", x.plug(4, 0), DepotLog.NONE);
    }

    private static void ends(Check check) {
        DepotLog x = new DepotLog();
        x.lead(0, 1000);
        x.run(10, 60, 40);
        x.order(0, 0, 0, 3, 2);
        x.advance(69);
        check.same("goes before its end", x.stateOf(0), DepotLog.GOES);
        x.advance(1);
        check.same("done at its end", x.stateOf(0), DepotLog.DONE);
        check.same("bus", x.busOf(0), 3);
        check.same("driver", x.driverOf(0), 2);
        check.same("minutes", x.minutesOf(2, 0), 60);
        check.same("charge", x.charge(3), 60);
        x.advance(1);
        check.same("and later", x.stateOf(0), DepotLog.DONE);
    }

    private static void loadsFirst(Check check) {
        DepotLog x = new DepotLog();
        x.lead(0, 1000);
        x.run(1, 5, 10);
        x.run(7, 5, 10);
        x.run(20, 5, 10);
        x.order(0, 0, 0, 0, 0);
        x.order(0, 1, 1, 0, 1);
        x.order(0, 2, 2, 1, 2);
        x.advance(6);
        x.plug(0, 1);
        x.plug(1, 0);
        x.advance(1);
        check.same("one is loaded, then the run takes its charge", x.charge(0), 81);
        x.advance(13);
        check.same("a full bus is not loaded, even before it goes", x.charge(1), 90);
        check.same("who goes is not loaded", x.charge(0), 81);
        x.plug(0, 1);
        x.advance(19);
        check.same("19 loaded", x.charge(0), 100);
        x.advance(1);
        check.same("never above 100", x.charge(0), 100);
    }

    private static void endsBeforeStarts(Check check) {
        DepotLog x = new DepotLog();
        x.lead(0, 1000);
        x.run(20, 10, 50);
        x.run(10, 10, 50);
        x.order(0, 0, 0, 0, 0);
        x.order(0, 1, 1, 0, 1);
        x.advance(20);
        check.same("the one is done", x.stateOf(1), DepotLog.DONE);
        check.same("the other one goes", x.stateOf(0), DepotLog.GOES);
        check.same("both took their charge", x.charge(0), 0);
        DepotLog y = new DepotLog();
        y.lead(0, 1000);
        y.run(10, 1, 50);
        y.order(0, 0, 0, 0, 0);
        y.advance(10);
        check.same("a run of one minute goes", y.stateOf(0), DepotLog.GOES);
        y.advance(1);
        check.same("and is done", y.stateOf(0), DepotLog.DONE);
    }

    private static DepotLog busy() {
        DepotLog x = new DepotLog();
        x.lead(1, 300);
        for (int k = 0; k < 5; k++) {
            x.run(5 + 7 * k, 20, 30);
            x.run(90 + 3 * k, 31, 35);
            x.run(150 + k, 40, 60);
        }
        for (int k = 0; k < 5; k++) {
            x.order(1, 10 + k, 3 * k, k, k);
            x.order(1, 20 + k, 3 * k + 1, k, 4 - k);
        }
        x.plug(0, 0);
        x.plug(3, 1);
        return x;
    }

    private static void oneByOne(Check check) {
        DepotLog steps = busy();
        for (int k = 0; k < 200; k++) {
            steps.advance(1);
        }
        DepotLog leap = busy();
        check.same("200 at once", leap.advance(200), 200);
        check.same("200 by one are 200 at once", Check.seen(steps), Check.seen(leap));
    }

    private static void wrong(Check check) {
        int[] none = {0, -1, 1001, Integer.MIN_VALUE, Integer.MAX_VALUE};
        for (int minutes : none) {
            check.refused("minutes " + minutes, IllegalArgumentException.class, Promise08AdvanceTest::busy, x -> x.advance(minutes));
        }
        check.answered("1000 minutes", 1000, DepotLog::new, x -> x.advance(1000));
        Supplier<DepotLog> late = () -> Depots.at(29500);
        check.answered("to 30000", 30000, late, x -> x.advance(500));
        check.refused("above 30000", IllegalStateException.class, late, x -> x.advance(501));
        DepotLog last = Depots.at(30000);
        check.same("at the end", Check.thrownBy(() -> last.advance(1)), "IllegalStateException");
        check.same("at the end, out of range", Check.thrownBy(() -> last.advance(0)), "IllegalArgumentException");
        check.same("at the end, too many", Check.thrownBy(() -> last.advance(1001)), "IllegalArgumentException");
        check.same("the end stands", last.minute(), 30000);
        check.same("a lease at the end", last.lead(1, 1000), true);
        check.same("no run any more", Check.thrownBy(() -> last.run(20000, 1, 1)), "IllegalArgumentException");
    }
}
