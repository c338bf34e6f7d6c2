public final class Promise06AilsTest {
    public static void main(String[] args) {
        Check check = new Check();
        answers(check);
        ordersWaitAgain(check);
        lowestFitDriver(check);
        fromEachToEach(check);
        notFit(check);
        lost(check);
        done(check);
        thirtyRuns(check);
        int[] none = {5, -1, Integer.MIN_VALUE, Integer.MAX_VALUE};
        for (int driver : none) {
            check.refused("driver " + driver, IndexOutOfBoundsException.class, Promise06AilsTest::going, x -> x.ails(driver, true));
            check.refused("well driver " + driver, IndexOutOfBoundsException.class, Promise06AilsTest::going, x -> x.ails(driver, false));
        }
        check.end();
    }

    /** At the minute 10 the run 0, to 70, goes with bus 0 and driver 1. */
    private static DepotLog going() {
        DepotLog x = new DepotLog();
        x.lead(0, 1000);
        x.run(10, 60, 40);
        x.run(100, 60, 30);
        x.run(200, 60, 20);
        x.order(0, 0, 0, 0, 1);
        x.advance(10);
        return x;
    }

    private static void answers(Check check) {
        DepotLog x = new DepotLog();
        check.same("becomes ill", x.ails(2, true), false);
        check.same("once more", x.ails(2, true), true);
        check.same("another one", x.ails(3, false), false);
        check.same("is well again", x.ails(2, false), true);
        check.same("stays well", x.ails(2, false), false);
        check.same("becomes ill anew", x.ails(2, true), false);
    }

    private static void ordersWaitAgain(Check check) {
        DepotLog x = going();
        x.order(0, 1, 1, 1, 1);
        x.order(0, 2, 2, 2, 2);
        x.ails(1, true);
        check.same("the ordered run", x.stateOf(1), DepotLog.WAITS);
        check.same("its bus", x.busOf(1), DepotLog.NONE);
        check.same("its driver", x.driverOf(1), DepotLog.NONE);
        check.same("promised", x.promised(1), 0);
        check.same("minutes", x.minutesOf(1, 0), 0);
        check.same("another driver's run", x.stateOf(2), DepotLog.ORDERED);
        check.same("the log keeps the orders", x.orders(), 3);
        x.ails(1, false);
        check.same("nothing comes back", x.stateOf(1), DepotLog.WAITS);
        check.same("it can be ordered anew", x.order(0, 3, 1, 1, 1), 3);
        x.ails(1, false);
        check.same("told to be well, the driver keeps the orders", x.stateOf(1), DepotLog.ORDERED);
        DepotLog y = going();
        y.ails(1, false);
        check.same("and the run that goes", y.driverOf(0), 1);
    }

    private static void lowestFitDriver(Check check) {
        DepotLog x = going();
        x.ails(1, true);
        check.same("the lowest driver", x.driverOf(0), 0);
        check.same("state", x.stateOf(0), DepotLog.GOES);
        check.same("bus", x.busOf(0), 0);
        check.same("nothing more is taken off", x.charge(0), 60);
        check.same("the new one's minutes", x.minutesOf(0, 0), 60);
        check.same("the old one's minutes", x.minutesOf(1, 0), 0);
        x.ails(1, false);
        x.ails(0, true);
        check.same("back to the first", x.driverOf(0), 1);
        check.same("the minutes count once", x.minutesOf(1, 0), 60);
    }

    /** All drivers below the one that is due are ill, those above are fit too. */
    private static void fromEachToEach(Check check) {
        for (int from = 0; from < 5; from++) {
            for (int due = 0; due < 5; due++) {
                DepotLog x = Depots.led(10, 60, 40);
                x.order(0, 0, 0, 0, from);
                x.advance(10);
                for (int driver = 0; driver < due; driver++) {
                    if (driver != from) {
                        x.ails(driver, true);
                    }
                }
                x.ails(from, true);
                if (due != from) {
                    check.same("from " + from + " to " + due, x.driverOf(0), due);
                    check.same("from " + from + " to " + due + ", the minutes", x.minutesOf(due, 0), 60);
                }
            }
        }
    }

    private static void notFit(Check check) {
        DepotLog x = new DepotLog();
        x.lead(0, 1000);
        x.run(100, 60, 10);
        x.run(189, 10, 10);
        x.run(400, 421, 10);
        x.run(190, 10, 10);
        x.run(61, 10, 10);
        x.order(0, 0, 0, 0, 0);
        x.order(0, 1, 1, 1, 1);
        x.order(0, 2, 2, 2, 2);
        x.order(0, 3, 3, 3, 3);
        x.order(0, 4, 4, 4, 4);
        x.advance(100);
        check.same("run 4 is done", x.stateOf(4), DepotLog.DONE);
        x.ails(0, true);
        check.same("not 1, no rest; not 2, too many hours", x.driverOf(0), 3);
        check.same("minutes in all", x.minutesOf(3, 0), 70);
        x.ails(3, true);
        check.same("nor 4, no rest from what is done", x.stateOf(0), DepotLog.LOST);
        check.same("the ordered run of 3", x.stateOf(3), DepotLog.WAITS);
    }

    private static void lost(Check check) {
        DepotLog x = going();
        x.order(0, 1, 1, 0, 0);
        x.ails(0, true);
        x.ails(2, true);
        x.ails(3, true);
        x.ails(4, true);
        check.same("goes on by 1", x.driverOf(0), 1);
        x.ails(1, true);
        check.same("state", x.stateOf(0), DepotLog.LOST);
        check.same("bus", x.busOf(0), DepotLog.NONE);
        check.same("driver", x.driverOf(0), DepotLog.NONE);
        check.same("what it took stays taken", x.charge(0), 60);
        check.same("minutes", x.minutesOf(1, 0), 0);
        check.same("its bus is free for a charger", x.plug(0, 0), DepotLog.NONE);
        x.ails(2, false);
        x.advance(60);
        check.same("a lost run stays lost", x.stateOf(0), DepotLog.LOST);
    }

    private static void done(Check check) {
        DepotLog x = going();
        x.plug(3, 1);
        x.advance(60);
        x.ails(1, true);
        check.same("a run done keeps its driver", x.driverOf(0), 1);
        check.same("and counts", x.minutesOf(1, 0), 60);
        check.same("state", x.stateOf(0), DepotLog.DONE);
        check.same("chargers are as they were", x.plug(4, 1), 3);
    }

    private static void thirtyRuns(Check check) {
        DepotLog x = FullDepot.going();
        check.same("becomes ill with 30 runs", Check.thrownBy(() -> x.ails(4, true)), "");
        check.same("the last run's new driver", x.driverOf(29), 0);
        check.same("the run before waits again", x.stateOf(28), DepotLog.WAITS);
    }
}
