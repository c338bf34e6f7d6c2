import java.util.function.Supplier;

/** A test of its own for each sentence of the promises 9 to 19 that names a boundary case. */
public final class QuestionBoundsTest {
    private static final int LEAST = Integer.MIN_VALUE;
    private static final int MOST = Integer.MAX_VALUE;

    interface Question {
        int ask(DepotLog x, int number);
    }

    public static void main(String[] args) {
        Check check = new Check();
        check.sentence("minute: Returns the minute.", QuestionBoundsTest::minute);
        check.sentence("leader: Returns the dispatcher that leads; NONE if nobody does.", QuestionBoundsTest::leader);
        check.sentence("runs: Returns the number of runs.", QuestionBoundsTest::runs);
        check.sentence("orders: Returns the number of orders in the log.", QuestionBoundsTest::orders);
        check.sentence("orderAt: Returns 100 times the run, 10 times the bus, and the driver, added, as they were ordered.",
            QuestionBoundsTest::orderAt);
        check.sentence("orderAt: Throws IndexOutOfBoundsException if there is no such order", QuestionBoundsTest::noOrder);
        check.sentence("stateOf: Returns WAITS, ORDERED, GOES, DONE or LOST.", QuestionBoundsTest::stateOf);
        check.sentence("stateOf: Throws IndexOutOfBoundsException if there is no such run", c -> noRun(c, DepotLog::stateOf));
        check.sentence("busOf: Returns the bus; NONE if it WAITS or is LOST.", QuestionBoundsTest::busOf);
        check.sentence("busOf: Throws IndexOutOfBoundsException if there is no such run", c -> noRun(c, DepotLog::busOf));
        check.sentence("driverOf: Returns the driver; NONE if it WAITS or is LOST.", QuestionBoundsTest::driverOf);
        check.sentence("driverOf: Throws IndexOutOfBoundsException if there is no such run", c -> noRun(c, DepotLog::driverOf));
        check.sentence("charge: Returns the charge.", QuestionBoundsTest::charge);
        check.sentence("charge: Throws IndexOutOfBoundsException if there is no such bus", c -> noneOfFive(c, DepotLog::charge));
        check.sentence("promised: Returns the sum.", QuestionBoundsTest::promised);
        check.sentence("promised: Throws IndexOutOfBoundsException if there is no such bus", c -> noneOfFive(c, DepotLog::promised));
        check.sentence("minutesOf: day: any number", QuestionBoundsTest::anyDay);
        check.sentence("minutesOf: Returns the minutes.", QuestionBoundsTest::minutesOf);
        check.sentence("minutesOf: Throws IndexOutOfBoundsException if there is no such driver", QuestionBoundsTest::noDriver);
        check.end();
    }

    private static void minute(Check check) {
        check.answered("at first", 0, DepotLog::new, DepotLog::minute);
        check.answered("after one", 1, () -> Depots.at(1), DepotLog::minute);
        check.answered("a day's last", 1439, () -> Depots.at(1439), DepotLog::minute);
        check.answered("the next day's first", 1440, () -> Depots.at(1440), DepotLog::minute);
        DepotLog last = Depots.at(30000);
        Check.thrownBy(() -> last.advance(1));
        check.same("the last of all", last.minute(), 30000);
    }

    private static void leader(Check check) {
        check.answered("nobody, at first", DepotLog.NONE, DepotLog::new, DepotLog::leader);
        for (int dispatcher = 0; dispatcher < 2; dispatcher++) {
            DepotLog x = new DepotLog();
            x.lead(dispatcher, 1);
            check.same("at once", x.leader(), dispatcher);
            x.advance(1);
            check.same("nobody, at the lease's end", x.leader(), DepotLog.NONE);
            x.advance(1);
            check.same("nobody, after it", x.leader(), DepotLog.NONE);
        }
        DepotLog refused = new DepotLog();
        Check.thrownBy(() -> refused.lead(2, 5));
        Check.thrownBy(() -> refused.lead(0, 1001));
        check.same("nobody, after refused calls", refused.leader(), DepotLog.NONE);
    }

    private static void runs(Check check) {
        for (int runs : new int[] {0, 1, 29, 30}) {
            check.answered("told " + runs, runs, () -> Depots.withRuns(runs), DepotLog::runs);
        }
        DepotLog x = Depots.withRuns(30);
        Check.thrownBy(() -> x.run(2, 1, 1));
        check.same("a thirty-first", x.runs(), 30);
        x.advance(2);
        check.same("all lost", x.runs(), 30);
    }

    private static void orders(Check check) {
        check.answered("none", 0, DepotLog::new, DepotLog::orders);
        check.answered("none, with runs", 0, () -> Depots.led(10, 5, 5), DepotLog::orders);
        check.answered("one", 1, () -> Depots.ordered(10, 5, 5), DepotLog::orders);
        DepotLog x = Depots.ordered(10, 5, 5, 20, 5, 5);
        x.order(1, 0, 1, 1, 1);
        Check.thrownBy(() -> x.order(1, 1, 1, 1, 1));
        Check.thrownBy(() -> x.order(0, 1000, 1, 1, 1));
        check.same("one, after a double and two refused ones", x.orders(), 1);
        x.breaks(0, true);
        check.same("one, though its run waits again", x.orders(), 1);
    }

    private static void orderAt(Check check) {
        DepotLog x = Depots.withRuns(30);
        x.lead(0, 1);
        x.order(0, 7, 0, 0, 0);
        x.order(0, 6, 29, 4, 4);
        x.order(0, 5, 3, 2, 1);
        check.same("the lowest of all", x.orderAt(0), 0);
        check.same("the highest of all", x.orderAt(1), 2944);
        check.same("one between", x.orderAt(2), 321);
        x.breaks(4, true);
        x.advance(2);
        x.ails(0, true);
        x.breaks(0, true);
        check.same("by another bus and driver now", 10 * x.busOf(0) + x.driverOf(0), 12);
        check.same("as it was ordered", x.orderAt(0), 0);
        check.same("as it was ordered, though it is lost", x.orderAt(1), 2944);
    }

    private static void noOrder(Check check) {
        check.refused("no orders, 0", Check.INDEX, DepotLog::new, x -> x.orderAt(0));
        check.refused("no orders, -1", Check.INDEX, DepotLog::new, x -> x.orderAt(-1));
        check.refused("no orders, with runs", Check.INDEX, () -> Depots.led(10, 5, 5), x -> x.orderAt(0));
        Supplier<DepotLog> one = () -> Depots.ordered(10, 5, 5);
        check.answered("the last one", 0, one, x -> x.orderAt(0));
        for (int order : new int[] {1, -1, 999, 1000, LEAST, LEAST + 1, MOST - 1, MOST, 1 << 30}) {
            check.refused("order " + order, Check.INDEX, one, x -> x.orderAt(order));
        }
    }

    private static void stateOf(Check check) {
        int[] minutes = {0, 9, 10, 14, 15, 1000};
        int[] withOrder = {DepotLog.ORDERED, DepotLog.ORDERED, DepotLog.GOES, DepotLog.GOES, DepotLog.DONE, DepotLog.DONE};
        int[] without = {DepotLog.WAITS, DepotLog.WAITS, DepotLog.LOST, DepotLog.LOST, DepotLog.LOST, DepotLog.LOST};
        DepotLog x = Depots.ordered(10, 5, 5, 10, 5, 5);
        for (int k = 0; k < minutes.length; k++) {
            Depots.pass(x, minutes[k]);
            check.same("with an order, at " + minutes[k], x.stateOf(0), withOrder[k]);
            check.same("without one, at " + minutes[k], x.stateOf(1), without[k]);
        }
    }

    private static void busOf(Check check) {
        int[] due = {DepotLog.NONE, 4, 3, 2, DepotLog.NONE};
        DepotLog x = RunQuestions.allStates();
        for (int state = 0; state < 5; state++) {
            check.same("in the state " + state, x.busOf(state), due[state]);
        }
        check.answered("the lowest", 0, () -> Depots.ordered(10, 5, 5), y -> y.busOf(0));
        x.breaks(4, true);
        check.same("waits again", x.busOf(1), DepotLog.NONE);
        for (int bus = 0; bus < 4; bus++) {
            x.breaks(bus, true);
        }
        check.same("lost when all are broken", x.busOf(2), DepotLog.NONE);
        check.same("done, when all are broken", x.busOf(3), 2);
    }

    private static void driverOf(Check check) {
        int[] due = {DepotLog.NONE, 3, 2, 1, DepotLog.NONE};
        DepotLog x = RunQuestions.allStates();
        for (int state = 0; state < 5; state++) {
            check.same("in the state " + state, x.driverOf(state), due[state]);
        }
        check.answered("the lowest", 0, () -> Depots.ordered(10, 5, 5), y -> y.driverOf(0));
        x.ails(3, true);
        check.same("waits again", x.driverOf(1), DepotLog.NONE);
        for (int driver : new int[] {0, 1, 4, 2}) {
            x.ails(driver, true);
        }
        check.same("lost when all are ill", x.driverOf(2), DepotLog.NONE);
        check.same("done, when all are ill", x.driverOf(3), 1);
    }

    private static void noRun(Check check, Question question) {
        check.refused("no runs, 0", Check.INDEX, DepotLog::new, x -> question.ask(x, 0));
        check.refused("no runs, -1", Check.INDEX, DepotLog::new, x -> question.ask(x, -1));
        for (int runs : new int[] {1, 29, 30}) {
            Supplier<DepotLog> made = () -> Depots.withRuns(runs);
            check.same("the last of " + runs, Check.thrownBy(() -> question.ask(made.get(), runs - 1)), "");
            for (int run : new int[] {runs, -1, LEAST, LEAST + 1, MOST - 1, MOST, 1 << 30}) {
                check.refused("run " + run + " of " + runs, Check.INDEX, made, x -> question.ask(x, run));
            }
        }
    }

    private static void charge(Check check) {
        check.answered("full", 100, DepotLog::new, x -> x.charge(4));
        DepotLog x = Depots.ordered(10, 5, 100);
        check.same("full, all is promised", x.charge(0), 100);
        x.plug(0, 0);
        x.advance(10);
        check.same("empty", x.charge(0), 0);
        x.advance(5);
        x.plug(0, 1);
        x.advance(99);
        check.same("one is missing", x.charge(0), 99);
        x.advance(2);
        check.same("full again", x.charge(0), 100);
    }

    private static void promised(Check check) {
        check.answered("nothing", 0, DepotLog::new, x -> x.promised(0));
        check.answered("nothing, with a run that waits", 0, () -> Depots.led(10, 5, 5), x -> x.promised(0));
        check.answered("all of a bus", 100, () -> Depots.ordered(10, 5, 100), x -> x.promised(0));
        DepotLog x = new DepotLog();
        x.lead(1, 1000);
        for (int run = 0; run < 30; run++) {
            x.run(10 + 8 * run, 5, 3);
            x.order(1, run, run, 3, run % 5);
            check.same("the sum of " + (run + 1), x.promised(3), 3 * (run + 1));
        }
        check.same("of another bus", x.promised(2), 0);
        for (int run = 0; run < 30; run++) {
            Depots.pass(x, 10 + 8 * run);
            check.same("when " + (run + 1) + " went", x.promised(3), 3 * (29 - run));
        }
    }

    private static void noneOfFive(Check check, Question question) {
        for (int bus = 0; bus < 5; bus++) {
            int n = bus;
            check.same("bus " + bus, Check.thrownBy(() -> question.ask(FullDepot.going(), n)), "");
        }
        for (int bus : new int[] {5, -1, LEAST, LEAST + 1, MOST - 1, MOST, 1 << 30}) {
            check.refused("bus " + bus, Check.INDEX, FullDepot::going, x -> question.ask(x, bus));
            check.refused("bus " + bus + ", nothing told", Check.INDEX, DepotLog::new, x -> question.ask(x, bus));
        }
    }

    /** 2^27 days have 45 times 2^32 minutes: reckoned in int, they'd wrap around to none. */
    private static void anyDay(Check check) {
        DepotLog x = Depots.led(1, 10, 0, 1440, 20, 0, 18720, 40, 0);
        for (int run = 0; run < 3; run++) {
            x.order(0, run, run, run, 2);
        }
        check.same("day 0", x.minutesOf(2, 0), 10);
        check.same("day 1", x.minutesOf(2, 1), 20);
        check.same("day 13", x.minutesOf(2, 13), 40);
        int wrap = 1 << 27;
        int[] empty = {-1, 2, 12, 14, LEAST, LEAST + 1, LEAST + 13, MOST, MOST - 1, MOST - 13, -13, -14, 1440};
        for (int day : empty) {
            check.same("day " + day, x.minutesOf(2, day), 0);
        }
        for (int day : new int[] {0, 1, 13}) {
            for (int times = 1; times < 16; times++) {
                check.same("day " + day + " and " + times + " wraps", x.minutesOf(2, day + times * wrap), 0);
                check.same("day " + day + " less " + times + " wraps", x.minutesOf(2, day - times * wrap), 0);
            }
        }
    }

    private static void minutesOf(Check check) {
        check.answered("none", 0, DepotLog::new, x -> x.minutesOf(0, 0));
        check.answered("none, with a run that waits", 0, () -> Depots.led(10, 5, 5), x -> x.minutesOf(0, 0));
        check.answered("one", 1, () -> Depots.ordered(10, 1, 5), x -> x.minutesOf(0, 0));
        DepotLog full = Depots.ordered(10, 200, 5, 240, 280, 5);
        full.order(0, 1, 1, 1, 0);
        check.same("480", full.minutesOf(0, 0), 480);
        full.advance(10);
        check.same("480, one goes", full.minutesOf(0, 0), 480);
        full.advance(510);
        check.same("480, both are done", full.minutesOf(0, 0), 480);
        full.ails(0, true);
        check.same("480, the driver is ill", full.minutesOf(0, 0), 480);
    }

    private static void noDriver(Check check) {
        for (int driver : new int[] {5, -1, LEAST, LEAST + 1, MOST - 1, MOST, 1 << 30}) {
            for (int day : new int[] {0, -1, 13, LEAST, MOST}) {
                check.refused("driver " + driver + ", day " + day, Check.INDEX, FullDepot::going, x -> x.minutesOf(driver, day));
            }
            check.refused("driver " + driver + ", nothing told", Check.INDEX, DepotLog::new, x -> x.minutesOf(driver, 0));
        }
    }
}
