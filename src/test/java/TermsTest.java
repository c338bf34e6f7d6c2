import java.util.function.Supplier;

/** A test of its own for each sentence of "Terms" that names a boundary case. */
public final class TermsTest {
    public static void main(String[] args) {
        Check check = new Check();
        check.sentence("No bus has two orders at a time and no driver too many hours, whoever led.", TermsTest::whoeverLed);
        check.sentence("A call that throws an exception changes nothing; if several exceptions apply, the one that its"
            + " @throws lines name first is thrown.", TermsTest::severalExceptions);
        check.sentence("Time is told in minutes, from 0; a day has 1440.", TermsTest::dayOf1440);
        check.sentence("There are the buses 0 to 4, the drivers 0 to 4, the chargers 0 and 1, and the dispatchers 0 and 1.",
            TermsTest::whatThereIs);
        check.sentence("Runs are numbered from 0; there can be 30.", TermsTest::thirtyRuns);
        check.sentence("A run has a start, some minutes, all within one day, and needs some charge.", TermsTest::withinOneDay);
        check.sentence("It goes from its start on, up to its end, the start and the minutes added.", TermsTest::fromStartToEnd);
        check.sentence("It WAITS without an order, is ORDERED, GOES, is DONE or LOST.", TermsTest::states);
        check.sentence("Two runs meet if one begins before the other one has ended, and the other way round.", TermsTest::meeting);
        check.sentence("A bus has a charge, 0 to 100, at first 100, and may be broken.", TermsTest::chargeOfBus);
        check.sentence("Promised of it is the charge that its ORDERED runs need.", TermsTest::promisedCharge);
        check.sentence("A bus is fit for a run if it is not broken,", TermsTest::fitBusIsWhole);
        check.sentence("has no ORDERED run, and none that GOES, that meets the run,", TermsTest::fitBusMeetsNone);
        check.sentence("and its charge less what is promised is at least what the run needs.", TermsTest::fitBusHasCharge);
        check.sentence("The minutes of a driver on a day are those of its runs that start on that day and are ORDERED,"
            + " GO or are DONE.", TermsTest::minutesOfDriver);
        check.sentence("A driver is fit for a run if it is not ill,", TermsTest::fitDriverIsWell);
        check.sentence("its minutes of that day, with the run, are at most 480,", TermsTest::fitDriverHasHours);
        check.sentence("and for each of its other runs of that day that is ORDERED, GOES or is DONE one of both ends 30"
            + " minutes or more before the other one begins.", TermsTest::fitDriverIsRested);
        check.sentence("The dispatcher that leads orders a run that WAITS and whose start is not past, for a bus and a"
            + " driver that are fit for it;", TermsTest::ordering);
        check.sentence("the order has a mark, by which it is written into the log.", TermsTest::markInLog);
        check.sentence("An order whose mark is in the log already changes nothing.", TermsTest::doubleOrder);
        check.end();
    }

    private static void whoeverLed(Check check) {
        Supplier<DepotLog> changed = () -> {
            DepotLog x = Depots.told(20, 60, 1, 79, 21, 1, 80, 20, 1, 200, 420, 1, 200, 421, 1);
            x.lead(0, 5);
            x.order(0, 0, 0, 0, 0);
            x.advance(5);
            x.lead(1, 5);
            return x;
        };
        check.refused("a bus ordered by the one, then by the other", Check.STATE, changed, x -> x.order(1, 1, 1, 0, 1));
        check.answered("from its end on", 1, changed, x -> x.order(1, 1, 2, 0, 1));
        check.answered("480 minutes, by both", 1, changed, x -> x.order(1, 1, 3, 1, 0));
        check.refused("481 minutes, by both", Check.STATE, changed, x -> x.order(1, 1, 4, 1, 0));
    }

    private static void severalExceptions(Check check) {
        Supplier<DepotLog> full = FullDepot::going;
        check.refused("run: argument, then full", Check.ARGUMENT, full, x -> x.run(100, 10, 101));
        check.refused("lead: dispatcher, then minutes", Check.INDEX, full, x -> x.lead(2, 1001));
        check.refused("order: all three", Check.INDEX, full, x -> x.order(2, 1000, 0, 4, 4));
        check.refused("order: run, then mark", Check.INDEX, full, x -> x.order(0, 1000, 30, 4, 4));
        check.refused("order: bus, then mark", Check.INDEX, full, x -> x.order(0, 1000, 0, 5, 4));
        check.refused("order: driver, then mark", Check.INDEX, full, x -> x.order(0, 1000, 0, 4, 5));
        check.refused("order: driver, then who leads", Check.INDEX, full, x -> x.order(1, 5, 0, 4, 5));
        check.refused("order: mark, then who leads", Check.ARGUMENT, full, x -> x.order(1, 1000, 0, 4, 4));
        check.refused("order: mark, then a run that goes", Check.ARGUMENT, full, x -> x.order(0, -1, 29, 4, 4));
        check.refused("plug: charger, then a run that goes", Check.INDEX, full, x -> x.plug(4, 2));
        Supplier<DepotLog> end = () -> Depots.at(30000);
        check.refused("advance: too few, then the end", Check.ARGUMENT, end, x -> x.advance(0));
        check.refused("advance: too many, then the end", Check.ARGUMENT, end, x -> x.advance(1001));
    }

    private static void dayOf1440(Check check) {
        DepotLog x = Depots.led(1439, 1, 0, 1440, 2, 0, 2879, 1, 0, 2880, 4, 0);
        check.same("the first minute", x.minute(), 0);
        for (int run = 0; run < 4; run++) {
            x.order(0, run, run, run, 0);
        }
        check.same("day 0 has the minute 1439", x.minutesOf(0, 0), 1);
        check.same("day 1 has the minutes 1440 and 2879", x.minutesOf(0, 1), 3);
        check.same("day 2 has the minute 2880", x.minutesOf(0, 2), 4);
    }

    private static void whatThereIs(Check check) {
        Supplier<DepotLog> one = () -> Depots.led(10, 10, 0);
        for (int n = 0; n < 5; n++) {
            int k = n;
            check.answered("ordered for bus " + n, 0, one, x -> x.order(0, 0, 0, k, 0));
            check.answered("ordered for driver " + n, 0, one, x -> x.order(0, 0, 0, 0, k));
            check.answered("charge of bus " + n, 100, one, x -> x.charge(k));
            check.answered("promised of bus " + n, 0, one, x -> x.promised(k));
            check.answered("bus " + n + " breaks", 0, one, x -> x.breaks(k, true) ? 1 : 0);
            check.answered("driver " + n + " ails", 0, one, x -> x.ails(k, true) ? 1 : 0);
            check.answered("minutes of driver " + n, 0, one, x -> x.minutesOf(k, 0));
            check.answered("bus " + n + " at charger 0", DepotLog.NONE, one, x -> x.plug(k, 0));
            check.answered("bus " + n + " at charger 1", DepotLog.NONE, one, x -> x.plug(k, 1));
        }
        for (int n : new int[] {-1, 5}) {
            check.refused("ordered for bus " + n, Check.INDEX, one, x -> x.order(0, 0, 0, n, 0));
            check.refused("ordered for driver " + n, Check.INDEX, one, x -> x.order(0, 0, 0, 0, n));
            check.refused("charge of bus " + n, Check.INDEX, one, x -> x.charge(n));
            check.refused("promised of bus " + n, Check.INDEX, one, x -> x.promised(n));
            check.refused("bus " + n + " breaks", Check.INDEX, one, x -> x.breaks(n, true));
            check.refused("driver " + n + " ails", Check.INDEX, one, x -> x.ails(n, true));
            check.refused("minutes of driver " + n, Check.INDEX, one, x -> x.minutesOf(n, 0));
            check.refused("plug bus " + n, Check.INDEX, one, x -> x.plug(n, 0));
        }
        check.answered("dispatcher 0 leads", 1, DepotLog::new, x -> x.lead(0, 1) ? 1 : 0);
        check.answered("dispatcher 1 leads", 1, DepotLog::new, x -> x.lead(1, 1) ? 1 : 0);
        for (int n : new int[] {-1, 2}) {
            check.refused("charger " + n, Check.INDEX, one, x -> x.plug(0, n));
            check.refused("dispatcher " + n + " leads", Check.INDEX, DepotLog::new, x -> x.lead(n, 1));
            check.refused("dispatcher " + n + " orders", Check.INDEX, one, x -> x.order(n, 0, 0, 0, 0));
            check.refused("dispatcher " + n + " orders when nobody leads", Check.INDEX, () -> Depots.told(10, 10, 0),
                x -> x.order(n, 0, 0, 0, 0));
        }
    }

    private static void thirtyRuns(Check check) {
        check.answered("the first", 0, DepotLog::new, x -> x.run(1, 1, 1));
        check.answered("the thirtieth", 29, () -> Depots.withRuns(29), x -> x.run(1, 1, 1));
        check.refused("the thirty-first", Check.STATE, () -> Depots.withRuns(30), x -> x.run(1, 1, 1));
        check.answered("the last one is one", DepotLog.WAITS, () -> Depots.withRuns(30), x -> x.stateOf(29));
        check.refused("there is none after it", Check.INDEX, () -> Depots.withRuns(30), x -> x.stateOf(30));
    }

    private static void withinOneDay(Check check) {
        check.answered("from the first minute that can be", 0, DepotLog::new, x -> x.run(1, 600, 0));
        check.answered("up to a day's end", 0, DepotLog::new, x -> x.run(840, 600, 0));
        check.refused("a minute into the next day", Check.ARGUMENT, DepotLog::new, x -> x.run(841, 600, 0));
        check.answered("from a day's begin", 0, DepotLog::new, x -> x.run(1440, 600, 0));
        check.answered("a day's last minute", 0, DepotLog::new, x -> x.run(1439, 1, 0));
        check.refused("a day's last minute and the next one", Check.ARGUMENT, DepotLog::new, x -> x.run(1439, 2, 0));
    }

    private static void fromStartToEnd(Check check) {
        DepotLog x = Depots.ordered(10, 5, 1);
        x.advance(9);
        check.same("before its start", x.stateOf(0), DepotLog.ORDERED);
        x.advance(1);
        check.same("at its start", x.stateOf(0), DepotLog.GOES);
        x.advance(4);
        check.same("before its end", x.stateOf(0), DepotLog.GOES);
        x.advance(1);
        check.same("at its end", x.stateOf(0), DepotLog.DONE);
    }

    private static void states(Check check) {
        DepotLog x = RunQuestions.allStates();
        for (int state = 0; state < 5; state++) {
            check.same("the state " + state, x.stateOf(state), state);
        }
        check.answered("a run just told", DepotLog.WAITS, () -> Depots.led(1, 1, 1), y -> y.stateOf(0));
    }

    private static void meeting(Check check) {
        Supplier<DepotLog> busy = () -> Depots.ordered(50, 10, 1, 40, 10, 1, 40, 11, 1, 60, 10, 1, 59, 10, 1, 50, 1, 1, 59, 1, 1);
        check.answered("ends when the other one begins", 1, busy, x -> x.order(0, 1, 1, 0, 1));
        check.refused("ends a minute after that", Check.STATE, busy, x -> x.order(0, 1, 2, 0, 1));
        check.answered("begins when the other one ends", 1, busy, x -> x.order(0, 1, 3, 0, 1));
        check.refused("begins a minute before that", Check.STATE, busy, x -> x.order(0, 1, 4, 0, 1));
        check.refused("the other one's first minute", Check.STATE, busy, x -> x.order(0, 1, 5, 0, 1));
        check.refused("the other one's last minute", Check.STATE, busy, x -> x.order(0, 1, 6, 0, 1));
    }

    private static void chargeOfBus(Check check) {
        DepotLog x = Depots.ordered(1, 1, 100);
        check.same("at first", x.charge(0), 100);
        x.plug(0, 0);
        x.advance(1);
        check.same("nothing is left", x.charge(0), 0);
        x.advance(1);
        x.plug(0, 0);
        x.advance(1);
        check.same("loaded from 0", x.charge(0), 1);
        x.advance(98);
        check.same("nearly full", x.charge(0), 99);
        x.advance(1);
        check.same("full", x.charge(0), 100);
        x.advance(1);
        check.same("full, and no more", x.charge(0), 100);
        check.same("whole at first", x.breaks(0, true), false);
        check.same("broken", x.breaks(0, true), true);
    }

    private static void promisedCharge(Check check) {
        DepotLog x = Depots.led(10, 5, 0, 20, 5, 100, 30, 5, 1);
        check.same("without orders", x.promised(2), 0);
        x.order(0, 0, 0, 2, 0);
        check.same("a run that needs nothing", x.promised(2), 0);
        x.order(0, 1, 1, 2, 1);
        check.same("all of it", x.promised(2), 100);
        x.advance(19);
        check.same("all of it still", x.promised(2), 100);
        x.advance(1);
        check.same("when it goes", x.promised(2), 0);
        x.advance(5);
        check.same("when it is done", x.promised(2), 0);
    }

    private static void fitBusIsWhole(Check check) {
        DepotLog x = Depots.led(10, 5, 0);
        x.breaks(4, true);
        check.same("broken", Check.thrownBy(() -> x.order(0, 0, 0, 4, 0)), "IllegalStateException");
        x.breaks(4, false);
        check.same("whole again", x.order(0, 0, 0, 4, 0), 0);
    }

    private static void fitBusMeetsNone(Check check) {
        int[] runs = {50, 10, 1, 55, 10, 1, 59, 10, 1, 60, 10, 1};
        Supplier<DepotLog> ordered = () -> Depots.ordered(runs);
        check.refused("meets an ordered one", Check.STATE, ordered, x -> x.order(0, 1, 2, 0, 1));
        check.answered("follows an ordered one", 1, ordered, x -> x.order(0, 1, 3, 0, 1));
        Supplier<DepotLog> going = () -> {
            DepotLog x = Depots.ordered(runs);
            x.advance(58);
            return x;
        };
        check.refused("meets one that goes", Check.STATE, going, x -> x.order(0, 1, 2, 0, 1));
        check.answered("follows one that goes", 1, going, x -> x.order(0, 1, 3, 0, 1));
        Supplier<DepotLog> waits = () -> {
            DepotLog x = Depots.ordered(runs);
            x.ails(0, true);
            return x;
        };
        check.answered("meets one that waits again", 1, waits, x -> x.order(0, 1, 1, 0, 1));
        Supplier<DepotLog> lost = () -> {
            DepotLog x = Depots.ordered(runs);
            x.advance(50);
            for (int driver = 1; driver < 5; driver++) {
                x.ails(driver, true);
            }
            x.ails(0, true);
            x.ails(1, false);
            return x;
        };
        check.answered("meets one that is lost", 1, lost, x -> x.order(0, 1, 2, 0, 1));
    }

    private static void fitBusHasCharge(Check check) {
        check.answered("100 of 100", 0, () -> Depots.led(10, 5, 100), x -> x.order(0, 0, 0, 0, 0));
        Supplier<DepotLog> promised = () -> Depots.ordered(10, 5, 99, 20, 5, 1, 20, 5, 2);
        check.answered("1 of 100 less 99", 1, promised, x -> x.order(0, 1, 1, 0, 1));
        check.refused("2 of 100 less 99", Check.STATE, promised, x -> x.order(0, 1, 2, 0, 1));
        Supplier<DepotLog> taken = () -> {
            DepotLog x = Depots.ordered(10, 5, 99, 20, 5, 1, 20, 5, 2);
            x.advance(12);
            return x;
        };
        check.answered("1 of 1", 1, taken, x -> x.order(0, 1, 1, 0, 1));
        check.refused("2 of 1", Check.STATE, taken, x -> x.order(0, 1, 2, 0, 1));
        Supplier<DepotLog> empty = () -> Depots.ordered(10, 5, 100, 20, 5, 0, 20, 5, 1);
        check.answered("0 of 100 less 100", 1, empty, x -> x.order(0, 1, 1, 0, 1));
        check.refused("1 of 100 less 100", Check.STATE, empty, x -> x.order(0, 1, 2, 0, 1));
    }

    private static void minutesOfDriver(Check check) {
        DepotLog x = Depots.led(10, 1, 1, 1439, 1, 1, 1440, 2, 1);
        check.same("none ordered", x.minutesOf(0, 0), 0);
        x.order(0, 0, 0, 0, 0);
        x.order(0, 1, 1, 1, 0);
        x.order(0, 2, 2, 2, 0);
        check.same("up to the day's end", x.minutesOf(0, 0), 2);
        check.same("from the next day's begin", x.minutesOf(0, 1), 2);
        x.advance(10);
        check.same("one goes", x.minutesOf(0, 0), 2);
        x.advance(1);
        check.same("one is done", x.minutesOf(0, 0), 2);
        x.ails(0, true);
        check.same("one waits again", x.minutesOf(0, 0), 1);
        check.same("that of the next day too", x.minutesOf(0, 1), 0);
    }

    private static void fitDriverIsWell(Check check) {
        DepotLog x = Depots.led(10, 5, 0);
        x.ails(4, true);
        check.same("ill", Check.thrownBy(() -> x.order(0, 0, 0, 0, 4)), "IllegalStateException");
        x.ails(4, false);
        check.same("well again", x.order(0, 0, 0, 0, 4), 0);
    }

    private static void fitDriverHasHours(Check check) {
        check.answered("480 by one run", 0, () -> Depots.led(10, 480, 0), x -> x.order(0, 0, 0, 0, 0));
        check.refused("481 by one run", Check.STATE, () -> Depots.led(10, 481, 0), x -> x.order(0, 0, 0, 0, 0));
        int[] runs = {100, 479, 0, 700, 1, 0, 700, 2, 0, 1440, 480, 0, 1440, 481, 0};
        for (int minute : new int[] {0, 100, 578, 579}) {
            Supplier<DepotLog> worked = () -> {
                DepotLog x = Depots.ordered(runs);
                Depots.pass(x, minute);
                return x;
            };
            check.answered("479 and 1, at " + minute, 1, worked, x -> x.order(0, 1, 1, 1, 0));
            check.refused("479 and 2, at " + minute, Check.STATE, worked, x -> x.order(0, 1, 2, 1, 0));
            check.answered("480 on the next day, at " + minute, 1, worked, x -> x.order(0, 1, 3, 1, 0));
            check.refused("481 on the next day, at " + minute, Check.STATE, worked, x -> x.order(0, 1, 4, 1, 0));
        }
        Supplier<DepotLog> whole = () -> Depots.ordered(100, 480, 0, 700, 1, 0);
        check.answered("a driver with 480", 480, whole, x -> x.minutesOf(0, 0));
        check.refused("a minute more than 480", Check.STATE, whole, x -> x.order(0, 1, 1, 1, 0));
    }

    private static void fitDriverIsRested(Check check) {
        int[] runs = {100, 10, 0, 140, 5, 0, 139, 5, 0, 60, 10, 0, 60, 11, 0};
        for (int minute : new int[] {0, 50, 100, 109, 110, 130}) {
            Supplier<DepotLog> worked = () -> {
                DepotLog x = Depots.ordered(runs);
                Depots.pass(x, minute);
                return x;
            };
            check.answered("30 minutes after, at " + minute, 1, worked, x -> x.order(0, 1, 1, 1, 0));
            check.refused("29 minutes after, at " + minute, Check.STATE, worked, x -> x.order(0, 1, 2, 1, 0));
        }
        Supplier<DepotLog> before = () -> Depots.ordered(runs);
        check.answered("30 minutes before", 1, before, x -> x.order(0, 1, 3, 1, 0));
        check.refused("29 minutes before", Check.STATE, before, x -> x.order(0, 1, 4, 1, 0));
        Supplier<DepotLog> midnight = () -> Depots.ordered(1430, 10, 0, 1440, 10, 0);
        check.answered("at once, on the next day", 1, midnight, x -> x.order(0, 1, 1, 1, 0));
        Supplier<DepotLog> between = () -> {
            DepotLog x = Depots.ordered(100, 10, 0, 180, 10, 0, 140, 10, 0, 140, 11, 0, 139, 11, 0);
            x.order(0, 1, 1, 1, 0);
            return x;
        };
        check.answered("30 minutes from both", 2, between, x -> x.order(0, 2, 2, 2, 0));
        check.refused("29 minutes from the later one", Check.STATE, between, x -> x.order(0, 2, 3, 2, 0));
        check.refused("29 minutes from the earlier one", Check.STATE, between, x -> x.order(0, 2, 4, 2, 0));
    }

    private static void ordering(Check check) {
        check.refused("nobody leads", Check.STATE, () -> Depots.told(10, 5, 0), x -> x.order(0, 0, 0, 0, 0));
        check.refused("the other one leads", Check.STATE, () -> Depots.led(10, 5, 0), x -> x.order(1, 0, 0, 0, 0));
        Supplier<DepotLog> ahead = () -> {
            DepotLog x = Depots.led(10, 5, 0);
            x.advance(9);
            return x;
        };
        check.answered("its start is ahead by a minute", 0, ahead, x -> x.order(0, 0, 0, 0, 0));
        Supplier<DepotLog> now = () -> {
            DepotLog x = ahead.get();
            x.advance(1);
            return x;
        };
        check.refused("its start is now", Check.STATE, now, x -> x.order(0, 0, 0, 0, 0));
        Supplier<DepotLog> past = () -> {
            DepotLog x = ahead.get();
            x.advance(2);
            return x;
        };
        check.refused("its start is past", Check.STATE, past, x -> x.order(0, 0, 0, 0, 0));
        check.refused("it is ordered already", Check.STATE, () -> Depots.ordered(10, 5, 0), x -> x.order(0, 1, 0, 1, 1));
    }

    private static void markInLog(Check check) {
        for (int mark : new int[] {0, 1, 998, 999}) {
            DepotLog x = Depots.led(10, 5, 0, 10, 5, 0);
            check.same("the first, by the mark " + mark, x.order(0, mark, 0, 0, 0), 0);
            check.same("written", x.orders(), 1);
            check.same("known", x.order(0, mark, 1, 1, 1), 0);
            check.same("the other mark", x.order(0, 999 - mark, 1, 1, 1), 1);
            check.same("both written", x.orders(), 2);
        }
    }

    private static void doubleOrder(Check check) {
        Supplier<DepotLog> once = () -> Depots.ordered(10, 5, 7, 20, 5, 8);
        String due = Check.tale(once.get());
        DepotLog x = once.get();
        x.order(0, 0, 1, 1, 1);
        x.order(1, 0, 1, 4, 4);
        x.order(1, 0, 0, 0, 0);
        check.same("what three double orders leave", Check.tale(x), due);
    }
}
