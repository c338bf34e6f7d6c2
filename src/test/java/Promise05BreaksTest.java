public final class Promise05BreaksTest {
    public static void main(String[] args) {
        Check check = new Check();
        answers(check);
        ordersWaitAgain(check);
        lowestFitBus(check);
        fromEachToEach(check);
        notFit(check);
        lost(check);
        chargers(check);
        wholeTime(check);
        thirtyRuns(check);
        int[] none = {5, -1, Integer.MIN_VALUE, Integer.MAX_VALUE};
        for (int bus : none) {
            check.refused("bus " + bus, IndexOutOfBoundsException.class, Promise05BreaksTest::going, x -> x.breaks(bus, true));
            check.refused("whole bus " + bus, IndexOutOfBoundsException.class, Promise05BreaksTest::going, x -> x.breaks(bus, false));
        }
        check.end();
    }

    /** At the minute 10 the run 0, to 70, goes with bus 1 and driver 0 and took 40. */
    private static DepotLog going() {
        DepotLog x = new DepotLog();
        x.lead(0, 1000);
        x.run(10, 60, 40);
        x.run(100, 60, 30);
        x.run(200, 60, 20);
        x.order(0, 0, 0, 1, 0);
        x.advance(10);
        return x;
    }

    private static void answers(Check check) {
        DepotLog x = new DepotLog();
        check.same("breaks", x.breaks(2, true), false);
        check.same("once more", x.breaks(2, true), true);
        check.same("another one", x.breaks(3, false), false);
        check.same("is whole again", x.breaks(2, false), true);
        check.same("stays whole", x.breaks(2, false), false);
        check.same("breaks anew", x.breaks(2, true), false);
    }

    private static void ordersWaitAgain(Check check) {
        DepotLog x = going();
        x.order(0, 1, 1, 1, 1);
        x.order(0, 2, 2, 2, 2);
        x.breaks(1, true);
        check.same("its ordered run", x.stateOf(1), DepotLog.WAITS);
        check.same("its ordered run's bus", x.busOf(1), DepotLog.NONE);
        check.same("its ordered run's driver", x.driverOf(1), DepotLog.NONE);
        check.same("promised", x.promised(1), 0);
        check.same("minutes", x.minutesOf(1, 0), 0);
        check.same("another bus's run", x.stateOf(2), DepotLog.ORDERED);
        check.same("the log keeps the orders", x.orders(), 3);
        x.breaks(1, false);
        check.same("nothing comes back", x.stateOf(1), DepotLog.WAITS);
        check.same("it can be ordered anew", x.order(0, 3, 1, 1, 1), 3);
        DepotLog y = going();
        y.order(0, 1, 1, 1, 1);
        y.breaks(1, false);
        check.same("told to be whole, it keeps its orders", y.stateOf(1), DepotLog.ORDERED);
        check.same("and its run that goes", y.busOf(0), 1);
    }

    private static void lowestFitBus(Check check) {
        DepotLog x = going();
        x.breaks(1, true);
        check.same("the lowest bus", x.busOf(0), 0);
        check.same("state", x.stateOf(0), DepotLog.GOES);
        check.same("driver", x.driverOf(0), 0);
        check.same("the new one's charge", x.charge(0), 60);
        check.same("the old one's charge", x.charge(1), 60);
        x.breaks(1, false);
        x.breaks(0, true);
        check.same("back to a whole one", x.busOf(0), 1);
        check.same("once more taken off", x.charge(1), 20);
        x.breaks(1, true);
        x.advance(60);
        check.same("done by the third", x.stateOf(0), DepotLog.DONE);
        check.same("bus in the end", x.busOf(0), 2);
        x.breaks(2, true);
        check.same("a run done keeps its bus", x.busOf(0), 2);
        check.same("no charge is taken for it", x.charge(3), 100);
    }

    /** All buses below the one that is due are broken, those above it are fit too. */
    private static void fromEachToEach(Check check) {
        for (int from = 0; from < 5; from++) {
            for (int due = 0; due < 5; due++) {
                DepotLog x = Depots.led(10, 60, 40);
                x.order(0, 0, 0, from, 0);
                x.advance(10);
                for (int bus = 0; bus < due; bus++) {
                    if (bus != from) {
                        x.breaks(bus, true);
                    }
                }
                x.breaks(from, true);
                if (due != from) {
                    check.same("from " + from + " to " + due, x.busOf(0), due);
                    check.same("from " + from + " to " + due + ", its charge", x.charge(due), 60);
                }
            }
        }
    }

    private static void notFit(Check check) {
        DepotLog x = new DepotLog();
        x.lead(0, 1000);
        x.run(10, 60, 40);
        x.run(69, 5, 61);
        x.run(70, 5, 60);
        x.run(200, 5, 61);
        x.run(5, 30, 0);
        x.order(0, 0, 0, 0, 0);
        x.order(0, 1, 1, 1, 1);
        x.order(0, 2, 2, 3, 2);
        x.order(0, 3, 3, 2, 3);
        x.order(0, 4, 4, 4, 4);
        x.advance(10);
        x.breaks(0, true);
        check.same("not 1, its run meets; not 2, its charge is promised", x.busOf(0), 3);
        check.same("all that was left of it", x.charge(3), 60);
        check.same("promised still", x.promised(3), 60);
        x.breaks(3, true);
        check.same("its ordered run waits", x.stateOf(2), DepotLog.WAITS);
        check.same("not 4, it goes", x.stateOf(0), DepotLog.LOST);
    }

    private static void lost(Check check) {
        DepotLog x = going();
        x.breaks(0, true);
        x.breaks(2, true);
        x.breaks(3, true);
        x.breaks(4, true);
        check.same("goes on by 1", x.busOf(0), 1);
        x.breaks(1, true);
        check.same("state", x.stateOf(0), DepotLog.LOST);
        check.same("bus", x.busOf(0), DepotLog.NONE);
        check.same("driver", x.driverOf(0), DepotLog.NONE);
        check.same("minutes", x.minutesOf(0, 0), 0);
        check.same("charge", x.charge(1), 60);
        x.breaks(2, false);
        check.same("a lost run stays lost", x.stateOf(0), DepotLog.LOST);
        x.advance(100);
        check.same("and is never done", x.stateOf(0), DepotLog.LOST);
    }

    private static void chargers(Check check) {
        DepotLog x = going();
        x.plug(3, 0);
        x.plug(0, 1);
        x.breaks(3, true);
        check.same("it left its charger", x.plug(4, 0), DepotLog.NONE);
        x.plug(3, 0);
        x.breaks(3, true);
        check.same("told once more, it left again", x.plug(4, 0), DepotLog.NONE);
        x.breaks(4, false);
        check.same("a whole bus stays", x.plug(4, 0), DepotLog.NONE);
        check.same("indeed", x.plug(2, 0), 4);
        x.breaks(1, true);
        check.same("the new bus", x.busOf(0), 0);
        check.same("it left its charger for the run", x.plug(4, 1), DepotLog.NONE);
        check.same("the other charger is as it was", x.plug(4, 0), 2);
    }

    /** A run that starts within the whole time of the run that goes makes a bus unfit, and so does one past. */
    private static void wholeTime(Check check) {
        DepotLog x = new DepotLog();
        x.lead(0, 1000);
        x.run(10, 100, 10);
        x.run(20, 80, 10);
        x.run(1, 9, 100);
        x.order(0, 0, 0, 4, 0);
        x.order(0, 1, 1, 0, 1);
        x.order(0, 2, 2, 1, 2);
        x.advance(90);
        x.plug(1, 0);
        x.advance(9);
        x.breaks(4, true);
        check.same("not 0, it goes; not 1, its charge is 9", x.busOf(0), 2);
        x.advance(1);
        check.same("run 1 is done", x.stateOf(1), DepotLog.DONE);
        x.breaks(2, true);
        check.same("a run that is done hinders no bus", x.busOf(0), 0);
    }

    private static void thirtyRuns(Check check) {
        DepotLog x = FullDepot.going();
        check.same("breaks with 30 runs", Check.thrownBy(() -> x.breaks(4, true)), "");
        check.same("the last run's new bus", x.busOf(29), 0);
        check.same("the run before waits again", x.stateOf(28), DepotLog.WAITS);
    }
}
