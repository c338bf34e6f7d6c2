import java.util.function.Supplier;

/** A test of its own for each boundary case of "Terms" about leases, passing minutes and breakdowns. */
public final class TermsOfTimeTest {
    public static void main(String[] args) {
        Check check = new Check();
        check.sentence("A lease goes for some minutes; the dispatcher who has it leads before the minute at which it ends.",
            TermsOfTimeTest::leaseEnds);
        check.sentence("It can be taken if nobody leads, or anew by who leads.", TermsOfTimeTest::leaseTaken);
        check.sentence("first each charger that a bus is at loads 1 into it, up to 100;", TermsOfTimeTest::loads);
        check.sentence("then it is the next minute;", TermsOfTimeTest::nextMinute);
        check.sentence("then runs that GO and end at it are DONE;", TermsOfTimeTest::ends);
        check.sentence("then, by rising numbers, ORDERED runs that start at it GO:", TermsOfTimeTest::starts);
        check.sentence("what they need is taken off the charge of their buses, which leave their chargers;",
            TermsOfTimeTest::takesCharge);
        check.sentence("runs that WAIT and start at it are LOST.", TermsOfTimeTest::lostAtStart);
        check.sentence("When a bus breaks, or is told to be broken once more, it leaves its charger;", TermsOfTimeTest::brokenLeaves);
        check.sentence("its ORDERED runs WAIT again; (a bus)", TermsOfTimeTest::ordersOfBus);
        check.sentence("then its run that GOES, if there is one, gets the lowest bus that is fit for it,", TermsOfTimeTest::lowestBus);
        check.sentence("whose charge becomes less by what the run needs, and which leaves its charger;", TermsOfTimeTest::newBus);
        check.sentence("or is LOST, if there is none. (a bus)", TermsOfTimeTest::noBus);
        check.sentence("When a driver becomes ill, its ORDERED runs WAIT again;", TermsOfTimeTest::ordersOfDriver);
        check.sentence("then its run that GOES gets the lowest driver that is fit for it, or is LOST.", TermsOfTimeTest::lowestDriver);
        check.sentence("(For a run that GOES, what is fit is asked as ever, by its whole time, without regard to itself.)",
            TermsOfTimeTest::wholeTime);
        check.end();
    }

    private static void leaseEnds(Check check) {
        for (int minutes : new int[] {1, 2, 999, 1000}) {
            DepotLog x = Depots.at(3);
            x.lead(1, minutes);
            check.same("at once, of " + minutes, x.leader(), 1);
            Depots.pass(x, 3 + minutes - 1);
            check.same("the last minute of " + minutes, x.leader(), 1);
            x.advance(1);
            check.same("the end of " + minutes, x.leader(), DepotLog.NONE);
        }
    }

    private static void leaseTaken(Check check) {
        DepotLog x = new DepotLog();
        check.same("nobody led yet", x.lead(0, 5), true);
        x.advance(4);
        check.same("by the other one, in the last minute", x.lead(1, 5), false);
        check.same("anew, in the last minute", x.lead(0, 5), true);
        x.advance(4);
        check.same("the lease taken anew", x.leader(), 0);
        x.advance(1);
        check.same("by the other one, at its end", x.lead(1, 5), true);
        check.same("by who led before", x.lead(0, 5), false);
        x.advance(5);
        check.same("by who led last, at the end", x.lead(1, 5), true);
    }

    private static void loads(Check check) {
        DepotLog x = Depots.led(1, 1, 1, 1, 1, 2, 1, 1, 3);
        for (int k = 0; k < 3; k++) {
            x.order(0, k, k, k, k);
        }
        x.advance(2);
        x.plug(0, 0);
        x.plug(1, 1);
        x.advance(1);
        check.same("99 and 1, at charger 0", x.charge(0), 100);
        check.same("98 and 1, at charger 1", x.charge(1), 99);
        check.same("at none", x.charge(2), 97);
        x.advance(1);
        check.same("100 stays", x.charge(0), 100);
        check.same("99 and 1, at charger 1", x.charge(1), 100);
        x.advance(1000);
        check.same("100 stays for long", x.charge(0) + x.charge(1), 200);
        check.same("97 at none for long", x.charge(2), 97);
        DepotLog y = Depots.ordered(2, 5, 10);
        y.plug(0, 0);
        y.advance(2);
        check.same("a full bus is loaded before its run takes its charge", y.charge(0), 90);
    }

    private static void nextMinute(Check check) {
        DepotLog x = new DepotLog();
        check.same("from 0", x.advance(1), 1);
        check.same("by 1000", x.advance(1000), 1001);
        Depots.pass(x, 29999);
        check.same("the last minute of all", x.advance(1), 30000);
        check.same("none after it", Check.answerOf(() -> x.advance(1)), "IllegalStateException");
    }

    private static void ends(Check check) {
        DepotLog x = Depots.led(1, 1, 0, 1, 600, 0);
        x.order(0, 0, 0, 0, 0);
        x.advance(1);
        check.same("a run of a minute goes", x.stateOf(0), DepotLog.GOES);
        x.advance(1);
        check.same("and is done", x.stateOf(0), DepotLog.DONE);
        check.same("none had an order for longer", x.stateOf(1), DepotLog.LOST);
        DepotLog y = Depots.ordered(20000, 160, 0);
        Depots.pass(y, 20159);
        check.same("the latest run of all, before the day's end", y.stateOf(0), DepotLog.GOES);
        y.advance(1);
        check.same("at the day's end", y.stateOf(0), DepotLog.DONE);
    }

    private static void starts(Check check) {
        DepotLog x = Depots.led(10, 5, 10, 10, 5, 20, 10, 5, 30, 10, 5, 40, 10, 5, 50);
        for (int run = 0; run < 5; run++) {
            x.order(0, run, run, 4 - run, run);
        }
        x.advance(9);
        for (int run = 0; run < 5; run++) {
            check.same("before its start, run " + run, x.stateOf(run), DepotLog.ORDERED);
        }
        x.advance(1);
        for (int run = 0; run < 5; run++) {
            check.same("at its start, run " + run, x.stateOf(run), DepotLog.GOES);
            check.same("its bus's charge, run " + run, x.charge(4 - run), 90 - 10 * run);
        }
        DepotLog last = Depots.withRuns(29);
        last.run(2, 1, 5);
        last.lead(0, 5);
        last.order(0, 0, 29, 4, 4);
        last.advance(2);
        check.same("the thirtieth run", last.stateOf(29), DepotLog.GOES);
        check.same("the first one, without an order", last.stateOf(0), DepotLog.LOST);
    }

    private static void takesCharge(Check check) {
        DepotLog x = Depots.led(5, 5, 100, 5, 5, 0, 5, 5, 1);
        for (int k = 0; k < 3; k++) {
            x.order(0, k, k, k, k);
        }
        x.plug(0, 0);
        x.plug(1, 1);
        x.advance(4);
        check.same("before the start", x.charge(0), 100);
        check.same("it stands at its charger", x.plug(0, 0), DepotLog.NONE);
        x.advance(1);
        check.same("all is taken", x.charge(0), 0);
        check.same("nothing is taken", x.charge(1), 100);
        check.same("1 is taken", x.charge(2), 99);
        x.advance(1);
        check.same("it is not loaded any more", x.charge(0), 0);
        check.same("it left charger 0", x.plug(3, 0), DepotLog.NONE);
        check.same("and that without need left charger 1", x.plug(4, 1), DepotLog.NONE);
    }

    private static void lostAtStart(Check check) {
        DepotLog x = Depots.led(1, 1, 0, 2, 1, 0);
        check.same("before", x.stateOf(0), DepotLog.WAITS);
        x.advance(1);
        check.same("at its start", x.stateOf(0), DepotLog.LOST);
        check.same("a minute before its start", x.stateOf(1), DepotLog.WAITS);
        x.advance(1);
        check.same("the other one at its start", x.stateOf(1), DepotLog.LOST);
        DepotLog again = Depots.ordered(10, 5, 10);
        again.breaks(0, true);
        again.advance(10);
        check.same("one that waits again", again.stateOf(0), DepotLog.LOST);
        check.same("takes no charge", again.charge(0), 100);
        DepotLog latest = Depots.told(20000, 1, 0);
        Depots.pass(latest, 19999);
        check.same("before the last start of all", latest.stateOf(0), DepotLog.WAITS);
        latest.advance(1);
        check.same("at the last start of all", latest.stateOf(0), DepotLog.LOST);
    }

    private static void brokenLeaves(Check check) {
        for (int charger = 0; charger < 2; charger++) {
            DepotLog x = new DepotLog();
            x.plug(2, charger);
            x.plug(3, 1 - charger);
            x.breaks(2, true);
            check.same("it left charger " + charger, x.plug(2, charger), DepotLog.NONE);
            x.breaks(2, true);
            check.same("once more it left charger " + charger, x.plug(4, charger), DepotLog.NONE);
            x.breaks(4, false);
            check.same("whole it stays", x.plug(0, charger), 4);
            check.same("the other bus stays", x.plug(1, 1 - charger), 3);
        }
    }

    private static void ordersOfBus(Check check) {
        DepotLog x = Depots.ordered(10, 5, 10, 20, 5, 10, 30, 5, 10, 40, 5, 10);
        x.order(0, 1, 1, 0, 1);
        x.order(0, 2, 2, 1, 2);
        x.breaks(0, true);
        check.same("the one", x.stateOf(0), DepotLog.WAITS);
        check.same("the other one", x.stateOf(1), DepotLog.WAITS);
        check.same("no bus", x.busOf(0) + x.busOf(1), 2 * DepotLog.NONE);
        check.same("no driver", x.driverOf(0) + x.driverOf(1), 2 * DepotLog.NONE);
        check.same("nothing is promised", x.promised(0), 0);
        check.same("another bus's run", x.stateOf(2), DepotLog.ORDERED);
        check.same("one that waited", x.stateOf(3), DepotLog.WAITS);
        check.same("the log", x.orders(), 3);
        x.breaks(1, false);
        check.same("told to be whole, a bus keeps its run", x.stateOf(2), DepotLog.ORDERED);
        DepotLog none = new DepotLog();
        check.same("without any run", none.breaks(4, true), false);
    }

    /** The run 0, from 50 to 60 and needing 40, goes by the bus 2; the run 1 is ordered for the bus 0. */
    private static DepotLog goingByTwo(int start, int minutes, int charge) {
        DepotLog x = Depots.led(50, 10, 40, start, minutes, charge);
        x.order(0, 0, 0, 2, 0);
        x.order(0, 1, 1, 0, 1);
        x.advance(50);
        return x;
    }

    private static void getsBus(Check check, String what, DepotLog x, int due) {
        x.breaks(2, true);
        check.same(what, x.busOf(0), due);
        check.same(what + ", it goes on", x.stateOf(0), DepotLog.GOES);
    }

    private static void lowestBus(Check check) {
        getsBus(check, "bus 0, its run begins at the end", goingByTwo(60, 5, 60), 0);
        getsBus(check, "not bus 0, its run begins a minute earlier", goingByTwo(59, 5, 60), 1);
        getsBus(check, "not bus 0, 39 are not promised", goingByTwo(60, 5, 61), 1);
        getsBus(check, "bus 0, its run is done", goingByTwo(10, 40, 60), 0);
        getsBus(check, "not bus 0, its run goes", goingByTwo(10, 41, 60), 1);
        getsBus(check, "not bus 0, 39 are left", goingByTwo(10, 5, 61), 1);
        DepotLog last = Depots.led(50, 10, 40);
        last.order(0, 0, 0, 2, 0);
        last.advance(50);
        for (int bus : new int[] {0, 1, 3}) {
            last.breaks(bus, true);
        }
        getsBus(check, "the last one, 4", last, 4);
        check.same("none goes, none is given", Check.answerOf(() -> new DepotLog().breaks(0, true)), "false");
    }

    private static void newBus(Check check) {
        DepotLog x = goingByTwo(200, 5, 60);
        x.plug(0, 1);
        x.plug(1, 0);
        x.breaks(2, true);
        check.same("all that is not promised", x.charge(0) - x.promised(0), 0);
        check.same("the new one's charge", x.charge(0), 60);
        check.same("the old one's charge", x.charge(2), 60);
        check.same("the new one left its charger", x.plug(3, 1), DepotLog.NONE);
        check.same("one that was not needed did not", x.plug(4, 0), 1);
        check.same("the new one has a run that goes", Check.answerOf(() -> x.plug(0, 0)), "IllegalStateException");
        check.same("the old one has not", x.plug(2, 0), 4);
        DepotLog whole = Depots.ordered(50, 10, 100);
        whole.advance(50);
        whole.breaks(0, true);
        check.same("all of a full one", whole.charge(1), 0);
    }

    private static void noBus(Check check) {
        DepotLog x = Depots.led(50, 10, 40, 50, 10, 0, 50, 10, 0);
        x.order(0, 0, 0, 2, 0);
        x.order(0, 1, 1, 0, 1);
        x.order(0, 2, 2, 1, 2);
        x.advance(50);
        x.breaks(3, true);
        x.breaks(4, true);
        x.breaks(2, true);
        check.same("two go, two are broken", x.stateOf(0), DepotLog.LOST);
        check.same("no bus", x.busOf(0), DepotLog.NONE);
        check.same("no driver", x.driverOf(0), DepotLog.NONE);
        check.same("what it took stays taken", x.charge(2), 60);
        check.same("its minutes", x.minutesOf(0, 0), 0);
        x.advance(10);
        check.same("at its end", x.stateOf(0), DepotLog.LOST);
        check.same("the others at their end", x.stateOf(1) + x.stateOf(2), 2 * DepotLog.DONE);
    }

    private static void ordersOfDriver(Check check) {
        DepotLog x = Depots.ordered(10, 5, 10, 45, 5, 10, 30, 5, 10);
        x.order(0, 1, 1, 1, 0);
        x.order(0, 2, 2, 2, 2);
        x.plug(0, 0);
        x.ails(0, true);
        check.same("the one", x.stateOf(0), DepotLog.WAITS);
        check.same("the other one", x.stateOf(1), DepotLog.WAITS);
        check.same("no bus", x.busOf(0) + x.busOf(1), 2 * DepotLog.NONE);
        check.same("no driver", x.driverOf(0) + x.driverOf(1), 2 * DepotLog.NONE);
        check.same("nothing is promised", x.promised(0) + x.promised(1), 0);
        check.same("no minutes", x.minutesOf(0, 0), 0);
        check.same("another driver's run", x.stateOf(2), DepotLog.ORDERED);
        check.same("the bus stays at its charger", x.plug(3, 0), 0);
        check.same("the log", x.orders(), 3);
        x.ails(2, false);
        check.same("told to be well, a driver keeps the run", x.stateOf(2), DepotLog.ORDERED);
        x.advance(30);
        x.ails(2, false);
        check.same("and the run that goes", x.driverOf(2), 2);
        check.same("without any run", new DepotLog().ails(4, true), false);
    }

    /** The run 0, from 100 to 110, goes with the driver 2; the run 1 is ordered for the driver 0. */
    private static DepotLog goingWithTwo(int start, int minutes) {
        DepotLog x = Depots.led(100, 10, 40, start, minutes, 0);
        x.order(0, 0, 0, 0, 2);
        x.order(0, 1, 1, 1, 0);
        x.advance(100);
        return x;
    }

    private static void getsDriver(Check check, String what, DepotLog x, int due) {
        x.ails(2, true);
        check.same(what, x.driverOf(0), due);
        check.same(what + ", it goes on", x.stateOf(0), DepotLog.GOES);
        check.same(what + ", the bus", x.busOf(0), 0);
        check.same(what + ", its charge", x.charge(0), 60);
    }

    private static void lowestDriver(Check check) {
        getsDriver(check, "driver 0, rested from what is done", goingWithTwo(60, 10), 0);
        getsDriver(check, "not driver 0, 29 minutes from what is done", goingWithTwo(60, 11), 1);
        getsDriver(check, "driver 0, 30 minutes to what is ordered", goingWithTwo(140, 10), 0);
        getsDriver(check, "not driver 0, 29 minutes to what is ordered", goingWithTwo(139, 10), 1);
        getsDriver(check, "not driver 0, whose run goes", goingWithTwo(90, 15), 1);
        getsDriver(check, "driver 0, 470 and 10 minutes", goingWithTwo(200, 470), 0);
        getsDriver(check, "not driver 0, 471 and 10 minutes", goingWithTwo(200, 471), 1);
        DepotLog last = goingWithTwo(1440, 480);
        for (int driver : new int[] {0, 1, 3}) {
            last.ails(driver, true);
        }
        getsDriver(check, "the last one, 4", last, 4);
        last.ails(4, true);
        check.same("then there is none", last.stateOf(0), DepotLog.LOST);
        check.same("no driver", last.driverOf(0), DepotLog.NONE);
        check.same("no bus", last.busOf(0), DepotLog.NONE);
        check.same("what it took stays taken", last.charge(0), 60);
    }

    private static void wholeTime(Check check) {
        Supplier<DepotLog> going = () -> {
            DepotLog x = Depots.led(100, 480, 50, 60, 11, 50, 90, 15, 0, 580, 10, 50, 579, 10, 0);
            x.order(0, 0, 0, 4, 4);
            x.order(0, 1, 1, 0, 0);
            x.order(0, 2, 2, 1, 1);
            x.order(0, 3, 3, 0, 2);
            x.order(0, 4, 4, 2, 3);
            x.advance(570);
            return x;
        };
        check.answered("buses: 0 has nothing left, 1 is done, 2 has a run at the last minute", 1, going, x -> {
            x.breaks(4, true);
            return x.busOf(0);
        });
        check.answered("drivers: each has a minute too many or no rest from the whole time", DepotLog.LOST, going, x -> {
            x.ails(4, true);
            return x.stateOf(0);
        });
        Supplier<DepotLog> alone = () -> {
            DepotLog x = Depots.ordered(100, 480, 50);
            x.advance(579);
            return x;
        };
        check.answered("480 minutes, in the last of them, without itself", 480, alone, x -> {
            x.ails(0, true);
            return x.minutesOf(1, 0);
        });
        check.answered("there and back", 0, alone, x -> {
            x.ails(0, true);
            x.ails(0, false);
            x.ails(1, true);
            return x.driverOf(0);
        });
        check.answered("the bus there and back, with 50 left", 0, alone, x -> {
            x.breaks(0, true);
            x.breaks(0, false);
            x.breaks(1, true);
            return 10 * x.busOf(0) + x.charge(0);
        });
    }
}
