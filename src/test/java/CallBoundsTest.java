import java.util.function.Consumer;
import java.util.function.Supplier;

/** A test of its own for each sentence of the promises 1 to 8 that names a boundary case. */
public final class CallBoundsTest {
    private static final int LEAST = Integer.MIN_VALUE;
    private static final int MOST = Integer.MAX_VALUE;

    public static void main(String[] args) {
        Check check = new Check();
        check.sentence("DepotLog(): The minute 0; no runs; nobody leads.", CallBoundsTest::newObject);
        check.sentence("run: start: from the next minute on, to 20000", CallBoundsTest::runStart);
        check.sentence("run: minutes: 1 to 600, so that it ends in the day in which it starts, at its end at the latest",
            CallBoundsTest::runMinutes);
        check.sentence("run: charge: 0 to 100", CallBoundsTest::runCharge);
        check.sentence("run: Returns its number.", CallBoundsTest::runNumber);
        check.sentence("run: Throws IllegalArgumentException if an argument is out of range", CallBoundsTest::runArguments);
        check.sentence("run: Throws IllegalStateException if there are 30 runs", CallBoundsTest::runFull);
        check.sentence("lead: dispatcher: 0 or 1", CallBoundsTest::leadDispatcher);
        check.sentence("lead: minutes: 1 to 1000", CallBoundsTest::leadMinutes);
        check.sentence("lead: Returns whether it leads then.", CallBoundsTest::leadAnswer);
        check.sentence("lead: Throws IndexOutOfBoundsException if there is no such dispatcher", CallBoundsTest::leadNobody);
        check.sentence("lead: Throws IllegalArgumentException if minutes is out of range", CallBoundsTest::leadRefused);
        check.sentence("order: mark: 0 to 999", CallBoundsTest::orderMark);
        check.sentence("order: Returns the number of the order in the log, from 0; that which has the mark, if there is one"
            + " (whatever run, bus and driver are told, whoever leads).", CallBoundsTest::orderNumber);
        check.sentence("order: Throws IndexOutOfBoundsException if there is no such dispatcher, run, bus or driver",
            CallBoundsTest::orderNoSuch);
        check.sentence("order: Throws IllegalArgumentException if mark is out of range", CallBoundsTest::orderNoMark);
        check.sentence("order: Throws IllegalStateException if the mark is not in the log, and the dispatcher does not lead,",
            CallBoundsTest::orderNotLeading);
        check.sentence("order: the run does not WAIT, or its start is past or now,", CallBoundsTest::orderNotWaiting);
        check.sentence("order: or the bus or the driver is not fit", CallBoundsTest::orderNotFit);
        check.sentence("breaks: Returns whether it was.", CallBoundsTest::breaksAnswer);
        check.sentence("breaks: Throws IndexOutOfBoundsException if there is no such bus", CallBoundsTest::breaksNone);
        check.sentence("ails: Returns whether it was.", CallBoundsTest::ailsAnswer);
        check.sentence("ails: Throws IndexOutOfBoundsException if there is no such driver", CallBoundsTest::ailsNone);
        check.sentence("plug: A bus goes to a charger; it leaves the other one, if it is there.", CallBoundsTest::plugOther);
        check.sentence("plug: Returns the bus that leaves the charger by that; NONE if it was free, or had this bus.",
            CallBoundsTest::plugAnswer);
        check.sentence("plug: Throws IndexOutOfBoundsException if there is no such bus or charger", CallBoundsTest::plugNone);
        check.sentence("plug: Throws IllegalStateException if the bus has a run that GOES", CallBoundsTest::plugGoing);
        check.sentence("advance: minutes: 1 to 1000", CallBoundsTest::advanceMinutes);
        check.sentence("advance: Returns the minute then.", CallBoundsTest::advanceAnswer);
        check.sentence("advance: Throws IllegalArgumentException if minutes is out of range", CallBoundsTest::advanceRefused);
        check.sentence("advance: Throws IllegalStateException if the minute would be above 30000", CallBoundsTest::advanceEnd);
        check.end();
    }

    /** By both sides of the range, and by numbers with which a sum would wrap around into it. */
    private static int[] outside(int least, int most) {
        return new int[] {least - 1, most + 1, LEAST, LEAST + 1, LEAST + most, MOST - most, MOST - 1, MOST, -1000, 1 << 16, 1 << 30};
    }

    private static void newObject(Check check) {
        DepotLog x = new DepotLog();
        check.same("minute", x.minute(), 0);
        check.same("runs", x.runs(), 0);
        check.same("orders", x.orders(), 0);
        check.same("leader", x.leader(), DepotLog.NONE);
        for (int n = 0; n < 5; n++) {
            check.same("charge of bus " + n, x.charge(n), 100);
            check.same("promised of bus " + n, x.promised(n), 0);
            check.same("minutes of driver " + n, x.minutesOf(n, 0), 0);
        }
        check.refused("no run to order", Check.INDEX, DepotLog::new, y -> y.order(0, 0, 0, 0, 0));
        check.refused("nobody leads", Check.STATE, () -> Depots.told(1, 1, 1), y -> y.order(0, 0, 0, 0, 0));
        for (int n = 0; n < 5; n++) {
            int k = n;
            check.answered("bus " + n + " is whole", 0, DepotLog::new, y -> y.breaks(k, false) ? 1 : 0);
            check.answered("driver " + n + " is well", 0, DepotLog::new, y -> y.ails(k, false) ? 1 : 0);
            check.answered("charger 0 is free for bus " + n, DepotLog.NONE, DepotLog::new, y -> y.plug(k, 0));
            check.answered("charger 1 is free for bus " + n, DepotLog.NONE, DepotLog::new, y -> y.plug(k, 1));
        }
    }

    private static void runStart(Check check) {
        for (int minute : new int[] {0, 1, 1439, 1440, 19998, 19999}) {
            Supplier<DepotLog> made = () -> Depots.at(minute);
            check.refused("now, at " + minute, Check.ARGUMENT, made, x -> x.run(minute, 1, 0));
            check.refused("a minute ago, at " + minute, Check.ARGUMENT, made, x -> x.run(minute - 1, 1, 0));
            check.answered("the next minute, at " + minute, 0, made, x -> x.run(minute + 1, 1, 0));
            check.answered("20000, at " + minute, 0, made, x -> x.run(20000, 1, 0));
            check.refused("20001, at " + minute, Check.ARGUMENT, made, x -> x.run(20001, 1, 0));
        }
        for (int minute : new int[] {20000, 20001, 29999, 30000}) {
            Supplier<DepotLog> made = () -> Depots.at(minute);
            check.refused("20000, at " + minute, Check.ARGUMENT, made, x -> x.run(20000, 1, 0));
            check.refused("20001, at " + minute, Check.ARGUMENT, made, x -> x.run(20001, 1, 0));
            check.refused("the next minute, at " + minute, Check.ARGUMENT, made, x -> x.run(minute + 1, 1, 0));
        }
        for (int start : outside(1, 20000)) {
            check.refused("start " + start, Check.ARGUMENT, DepotLog::new, x -> x.run(start, 1, 0));
            check.refused("start " + start + ", for long", Check.ARGUMENT, DepotLog::new, x -> x.run(start, 600, 0));
        }
    }

    private static void runMinutes(Check check) {
        for (int minutes : outside(1, 600)) {
            check.refused("minutes " + minutes, Check.ARGUMENT, DepotLog::new, x -> x.run(1, minutes, 0));
            check.refused("minutes " + minutes + ", at the last start", Check.ARGUMENT, DepotLog::new,
                x -> x.run(20000, minutes, 0));
        }
        check.answered("one", 0, DepotLog::new, x -> x.run(1, 1, 0));
        check.answered("600", 0, DepotLog::new, x -> x.run(1, 600, 0));
        for (int day = 0; day < 13; day++) {
            int end = 1440 * (day + 1);
            check.answered("one, up to the end of day " + day, 0, DepotLog::new, x -> x.run(end - 1, 1, 0));
            check.refused("two, over the end of day " + day, Check.ARGUMENT, DepotLog::new, x -> x.run(end - 1, 2, 0));
            check.answered("600, up to the end of day " + day, 0, DepotLog::new, x -> x.run(end - 600, 600, 0));
            check.refused("600, over the end of day " + day, Check.ARGUMENT, DepotLog::new, x -> x.run(end - 599, 600, 0));
            check.answered("600, from the end of day " + day, 0, DepotLog::new, x -> x.run(end, 600, 0));
        }
        check.answered("up to the end of day 13", 0, DepotLog::new, x -> x.run(20000, 160, 0));
        check.refused("over the end of day 13", Check.ARGUMENT, DepotLog::new, x -> x.run(20000, 161, 0));
    }

    private static void runCharge(Check check) {
        check.answered("0", 0, DepotLog::new, x -> x.run(1, 1, 0));
        check.answered("100", 0, DepotLog::new, x -> x.run(1, 1, 100));
        for (int charge : outside(0, 100)) {
            check.refused("charge " + charge, Check.ARGUMENT, DepotLog::new, x -> x.run(1, 1, charge));
        }
    }

    private static void runNumber(Check check) {
        DepotLog x = new DepotLog();
        for (int run = 0; run < 30; run++) {
            check.same("run " + run, x.run(1, 1, 1), run);
        }
        DepotLog y = new DepotLog();
        Check.thrownBy(() -> y.run(0, 1, 1));
        check.same("after one refused", y.run(1, 1, 1), 0);
        y.advance(5);
        check.same("after one lost", y.run(6, 1, 1), 1);
    }

    private static void runArguments(Check check) {
        int[][] wrong = {{0, 1, 0}, {20001, 1, 0}, {1, 0, 0}, {1, 601, 0}, {1439, 2, 0}, {1, 1, -1}, {1, 1, 101}, {MOST, MOST, MOST},
            {LEAST, LEAST, LEAST}, {MOST, LEAST, 0}, {MOST, 1, 0}, {1, MOST, 0}, {LEAST, MOST, 0}, {20000, MOST, 0}, {-1, 1, 0}};
        for (int[] a : wrong) {
            check.refused("run(" + a[0] + ", " + a[1] + ", " + a[2] + ")", Check.ARGUMENT, () -> Depots.ordered(10, 5, 5),
                x -> x.run(a[0], a[1], a[2]));
        }
    }

    private static void runFull(Check check) {
        check.answered("with 29", 29, () -> Depots.withRuns(29), x -> x.run(2, 1, 1));
        check.refused("with 30", Check.STATE, () -> Depots.withRuns(30), x -> x.run(2, 1, 1));
        check.refused("with 30, start too small", Check.ARGUMENT, () -> Depots.withRuns(30), x -> x.run(0, 1, 1));
        check.refused("with 30, start too large", Check.ARGUMENT, () -> Depots.withRuns(30), x -> x.run(20001, 1, 1));
        check.refused("with 30, minutes too small", Check.ARGUMENT, () -> Depots.withRuns(30), x -> x.run(2, 0, 1));
        check.refused("with 30, minutes too large", Check.ARGUMENT, () -> Depots.withRuns(30), x -> x.run(2, 601, 1));
        check.refused("with 30, over the day's end", Check.ARGUMENT, () -> Depots.withRuns(30), x -> x.run(1439, 2, 1));
        check.refused("with 30, charge too small", Check.ARGUMENT, () -> Depots.withRuns(30), x -> x.run(2, 1, -1));
        check.refused("with 30, charge too large", Check.ARGUMENT, () -> Depots.withRuns(30), x -> x.run(2, 1, 101));
        Supplier<DepotLog> lost = () -> {
            DepotLog x = Depots.withRuns(30);
            x.advance(5);
            return x;
        };
        check.refused("with 30 that are lost", Check.STATE, lost, x -> x.run(6, 1, 1));
    }

    private static void leadDispatcher(Check check) {
        check.answered("0", 0, DepotLog::new, x -> x.lead(0, 1) ? x.leader() : 9);
        check.answered("1", 1, DepotLog::new, x -> x.lead(1, 1) ? x.leader() : 9);
    }

    private static void leadMinutes(Check check) {
        for (int minutes : new int[] {1, 1000}) {
            DepotLog x = new DepotLog();
            check.same("minutes " + minutes, x.lead(0, minutes), true);
            Depots.pass(x, minutes - 1);
            check.same("before the end of " + minutes, x.leader(), 0);
            x.advance(1);
            check.same("the end of " + minutes, x.leader(), DepotLog.NONE);
        }
        DepotLog late = Depots.at(30000);
        check.same("1000 in the last minute of all", late.lead(1, 1000), true);
        check.same("leader then", late.leader(), 1);
    }

    private static void leadAnswer(Check check) {
        Supplier<DepotLog> led = () -> {
            DepotLog x = new DepotLog();
            x.lead(1, 2);
            return x;
        };
        check.answered("anew", 1, led, x -> x.lead(1, 1000) ? 1 : 0);
        check.answered("the other one", 0, led, x -> x.lead(0, 1000) ? 1 : 0);
        String due = Check.tale(led.get());
        DepotLog y = led.get();
        y.lead(0, 1000);
        check.same("what the other one's call leaves", Check.tale(y), due);
    }

    private static void leadNobody(Check check) {
        Supplier<DepotLog> led = () -> {
            DepotLog x = new DepotLog();
            x.lead(0, 3);
            return x;
        };
        for (int dispatcher : outside(0, 1)) {
            check.refused("nobody leads, " + dispatcher, Check.INDEX, DepotLog::new, x -> x.lead(dispatcher, 1));
            check.refused("one leads, " + dispatcher, Check.INDEX, led, x -> x.lead(dispatcher, 1));
            check.refused("too few minutes, " + dispatcher, Check.INDEX, led, x -> x.lead(dispatcher, 0));
            check.refused("too many minutes, " + dispatcher, Check.INDEX, led, x -> x.lead(dispatcher, 1001));
        }
    }

    private static void leadRefused(Check check) {
        Supplier<DepotLog> led = () -> {
            DepotLog x = Depots.at(7);
            x.lead(0, 3);
            return x;
        };
        for (int minutes : outside(1, 1000)) {
            check.refused("nobody leads, " + minutes, Check.ARGUMENT, DepotLog::new, x -> x.lead(1, minutes));
            check.refused("anew, " + minutes, Check.ARGUMENT, led, x -> x.lead(0, minutes));
            check.refused("the other one, " + minutes, Check.ARGUMENT, led, x -> x.lead(1, minutes));
        }
    }

    private static void orderMark(Check check) {
        check.answered("0", 0, () -> Depots.led(10, 5, 5), x -> x.order(0, 0, 0, 0, 0));
        check.answered("999", 0, () -> Depots.led(10, 5, 5), x -> x.order(0, 999, 0, 0, 0));
    }

    private static void orderNumber(Check check) {
        Supplier<DepotLog> two = () -> {
            DepotLog x = Depots.led(10, 5, 5, 20, 5, 5, 30, 5, 5);
            x.order(0, 999, 0, 0, 0);
            x.order(0, 0, 1, 1, 1);
            return x;
        };
        check.answered("the third", 2, two, x -> x.order(0, 1, 2, 2, 2));
        check.answered("the first one's mark", 0, two, x -> x.order(0, 999, 0, 0, 0));
        check.answered("the second one's mark, all else at its highest", 1, two, x -> x.order(1, 0, 2, 4, 4));
        Supplier<DepotLog> later = () -> {
            DepotLog x = two.get();
            Depots.pass(x, 1000);
            return x;
        };
        check.answered("nobody leads, all is done or lost", 0, later, x -> x.order(1, 999, 2, 4, 4));
        Supplier<DepotLog> other = () -> {
            DepotLog x = later.get();
            x.lead(1, 5);
            return x;
        };
        check.answered("the other one leads", 1, other, x -> x.order(0, 0, 0, 0, 0));
    }

    private static void orderNoSuch(Check check) {
        Supplier<DepotLog> two = () -> Depots.ordered(10, 5, 5, 20, 5, 5);
        Supplier<DepotLog> none = () -> Depots.led();
        check.refused("no runs", Check.INDEX, none, x -> x.order(0, 0, 0, 0, 0));
        check.refused("the run after the last one", Check.INDEX, two, x -> x.order(0, 1, 2, 1, 1));
        check.answered("the last run", 1, two, x -> x.order(0, 1, 1, 1, 1));
        check.refused("the run after the thirtieth", Check.INDEX, FullDepot::going, x -> x.order(0, 5, 30, 1, 1));
        check.answered("the thirtieth run", 0, () -> {
            DepotLog x = Depots.withRuns(30);
            x.lead(0, 1);
            return x;
        }, x -> x.order(0, 0, 29, 4, 4));
        for (int mark : new int[] {1, 0, 1000, -1}) {
            String by = ", by the mark " + mark;
            for (int n : outside(0, 4)) {
                check.refused("bus " + n + by, Check.INDEX, two, x -> x.order(0, mark, 1, n, 1));
                check.refused("driver " + n + by, Check.INDEX, two, x -> x.order(0, mark, 1, 1, n));
            }
            for (int n : outside(0, 1)) {
                check.refused("dispatcher " + n + by, Check.INDEX, two, x -> x.order(n, mark, 1, 1, 1));
                check.refused("run " + n + by, Check.INDEX, two, x -> x.order(0, mark, n, 1, 1));
            }
        }
        check.refused("a bus by the one who does not lead", Check.INDEX, two, x -> x.order(1, 1, 1, 5, 1));
        check.refused("a bus for a run that is ordered", Check.INDEX, two, x -> x.order(0, 1, 0, -1, 1));
    }

    private static void orderNoMark(Check check) {
        Supplier<DepotLog> one = () -> Depots.ordered(10, 5, 5, 20, 5, 5);
        for (int mark : outside(0, 999)) {
            check.refused("mark " + mark, Check.ARGUMENT, one, x -> x.order(0, mark, 1, 1, 1));
            check.refused("by who does not lead, mark " + mark, Check.ARGUMENT, one, x -> x.order(1, mark, 1, 1, 1));
            check.refused("of a run that is ordered, mark " + mark, Check.ARGUMENT, one, x -> x.order(0, mark, 0, 1, 1));
        }
    }

    private static void orderNotLeading(Check check) {
        Supplier<DepotLog> nobody = () -> Depots.told(10, 5, 5, 20, 5, 5);
        check.refused("nobody leads, 0", Check.STATE, nobody, x -> x.order(0, 0, 0, 0, 0));
        check.refused("nobody leads, 1", Check.STATE, nobody, x -> x.order(1, 0, 0, 0, 0));
        Supplier<DepotLog> one = () -> Depots.ordered(10, 5, 5, 20, 5, 5);
        check.refused("the other one leads", Check.STATE, one, x -> x.order(1, 1, 1, 1, 1));
        check.answered("by a mark that is in the log", 0, one, x -> x.order(1, 0, 1, 1, 1));
        for (int passed : new int[] {4, 5}) {
            Supplier<DepotLog> short5 = () -> {
                DepotLog x = nobody.get();
                x.lead(1, 5);
                x.advance(passed);
                return x;
            };
            if (passed == 4) {
                check.answered("the lease's last minute", 0, short5, x -> x.order(1, 0, 0, 0, 0));
            } else {
                check.refused("the lease's end", Check.STATE, short5, x -> x.order(1, 0, 0, 0, 0));
            }
        }
    }

    private static void orderNotWaiting(Check check) {
        int[] due = {DepotLog.ORDERED, DepotLog.ORDERED, DepotLog.GOES, DepotLog.GOES, DepotLog.DONE};
        int[] minutes = {0, 9, 10, 14, 15};
        for (int k = 0; k < due.length; k++) {
            int minute = minutes[k];
            Supplier<DepotLog> made = () -> {
                DepotLog x = Depots.ordered(10, 5, 5);
                Depots.pass(x, minute);
                return x;
            };
            check.answered("its state at " + minute, due[k], made, x -> x.stateOf(0));
            check.refused("at " + minute, Check.STATE, made, x -> x.order(0, 1, 0, 1, 1));
        }
        for (int now : new int[] {9, 10, 11}) {
            Supplier<DepotLog> made = () -> {
                DepotLog x = Depots.led(10, 5, 5);
                Depots.pass(x, now);
                return x;
            };
            if (now == 9) {
                check.answered("a minute before its start", 0, made, x -> x.order(0, 1, 0, 1, 1));
            } else {
                check.refused("without an order, at " + now, Check.STATE, made, x -> x.order(0, 1, 0, 1, 1));
            }
        }
    }

    private static void notFit(Check check, String what, Consumer<DepotLog> before) {
        Supplier<DepotLog> made = () -> {
            DepotLog x = Depots.ordered(100, 10, 60, 109, 10, 40, 110, 10, 41, 139, 10, 1, 200, 471, 1);
            before.accept(x);
            return x;
        };
        check.refused(what, Check.STATE, made, x -> x.order(0, 1, 1, 2, 2));
        check.answered(what + ", by others", 1, made, x -> x.order(0, 1, 1, 3, 3));
    }

    private static void orderNotFit(Check check) {
        notFit(check, "the bus is broken", x -> x.breaks(2, true));
        notFit(check, "the driver is ill", x -> x.ails(2, true));
        Supplier<DepotLog> one = () -> Depots.ordered(100, 10, 60, 109, 10, 40, 110, 10, 41, 139, 10, 1, 200, 471, 1, 200, 470, 1);
        check.refused("the bus has an order, for a minute of it", Check.STATE, one, x -> x.order(0, 1, 1, 0, 1));
        check.refused("the bus has 40 and no more", Check.STATE, one, x -> x.order(0, 1, 2, 0, 1));
        check.refused("the driver rests 29 minutes", Check.STATE, one, x -> x.order(0, 1, 3, 1, 0));
        check.refused("the driver has 481 minutes", Check.STATE, one, x -> x.order(0, 1, 4, 1, 0));
        check.answered("the driver has 480 minutes", 1, one, x -> x.order(0, 1, 5, 1, 0));
    }

    private static void breaksAnswer(Check check) {
        for (int n = 0; n < 5; n++) {
            DepotLog x = new DepotLog();
            check.same("at first, bus " + n, x.breaks(n, false), false);
            check.same("whole, bus " + n, x.breaks(n, true), false);
            check.same("broken, bus " + n, x.breaks(n, true), true);
            check.same("broken still, bus " + n, x.breaks(n, false), true);
            check.same("whole again, bus " + n, x.breaks(n, false), false);
            check.same("another one", x.breaks((n + 1) % 5, false), false);
        }
    }

    private static void breaksNone(Check check) {
        for (int bus : outside(0, 4)) {
            check.refused("bus " + bus, Check.INDEX, FullDepot::going, x -> x.breaks(bus, true));
            check.refused("whole, bus " + bus, Check.INDEX, FullDepot::going, x -> x.breaks(bus, false));
        }
        check.refused("a run that waits has no bus, -1", Check.INDEX, () -> Depots.led(10, 5, 5), x -> x.breaks(DepotLog.NONE, true));
    }

    private static void ailsAnswer(Check check) {
        for (int n = 0; n < 5; n++) {
            DepotLog x = new DepotLog();
            check.same("at first, driver " + n, x.ails(n, false), false);
            check.same("well, driver " + n, x.ails(n, true), false);
            check.same("ill, driver " + n, x.ails(n, true), true);
            check.same("ill still, driver " + n, x.ails(n, false), true);
            check.same("well again, driver " + n, x.ails(n, false), false);
            check.same("another one", x.ails((n + 1) % 5, false), false);
        }
    }

    private static void ailsNone(Check check) {
        for (int driver : outside(0, 4)) {
            check.refused("driver " + driver, Check.INDEX, FullDepot::going, x -> x.ails(driver, true));
            check.refused("well, driver " + driver, Check.INDEX, FullDepot::going, x -> x.ails(driver, false));
        }
        check.refused("a run that waits has no driver, -1", Check.INDEX, () -> Depots.led(10, 5, 5), x -> x.ails(DepotLog.NONE, true));
    }

    private static void plugOther(Check check) {
        for (int charger = 0; charger < 2; charger++) {
            DepotLog x = new DepotLog();
            x.plug(3, charger);
            check.same("from " + charger + " to the other one", x.plug(3, 1 - charger), DepotLog.NONE);
            check.same("it left the one", x.plug(2, charger), DepotLog.NONE);
            check.same("it is at the other one", x.plug(1, 1 - charger), 3);
        }
        DepotLog loaded = Depots.ordered(1, 1, 50);
        loaded.advance(2);
        loaded.plug(0, 0);
        loaded.plug(0, 1);
        loaded.advance(5);
        check.same("loaded by one charger alone", loaded.charge(0), 55);
    }

    private static void plugAnswer(Check check) {
        for (int charger = 0; charger < 2; charger++) {
            DepotLog x = new DepotLog();
            check.same("free", x.plug(0, charger), DepotLog.NONE);
            check.same("had this bus", x.plug(0, charger), DepotLog.NONE);
            check.same("had another bus, 0", x.plug(4, charger), 0);
            check.same("had another bus, 4", x.plug(0, charger), 4);
            check.same("the other charger is free still", x.plug(2, 1 - charger), DepotLog.NONE);
            check.same("it goes where another one is", x.plug(0, 1 - charger), 2);
            check.same("that which left is at none", x.plug(2, charger), DepotLog.NONE);
        }
    }

    private static void plugNone(Check check) {
        Supplier<DepotLog> both = () -> {
            DepotLog x = FullDepot.going();
            x.plug(0, 0);
            x.plug(1, 1);
            return x;
        };
        for (int bus : outside(0, 4)) {
            check.refused("bus " + bus, Check.INDEX, both, x -> x.plug(bus, 0));
            check.refused("bus at a free charger " + bus, Check.INDEX, FullDepot::going, x -> x.plug(bus, 1));
        }
        for (int charger : outside(0, 1)) {
            check.refused("charger " + charger, Check.INDEX, both, x -> x.plug(2, charger));
            check.refused("charger for a bus whose run goes " + charger, Check.INDEX, both, x -> x.plug(4, charger));
            check.refused("neither bus nor charger " + charger, Check.INDEX, both, x -> x.plug(charger + 5, charger));
        }
    }

    private static void plugGoing(Check check) {
        String[] due = {"-1", "-1", "IllegalStateException", "IllegalStateException", "-1"};
        int[] minutes = {0, 9, 10, 14, 15};
        for (int k = 0; k < minutes.length; k++) {
            DepotLog x = Depots.ordered(10, 5, 5);
            Depots.pass(x, minutes[k]);
            check.same("at " + minutes[k], Check.answerOf(() -> x.plug(0, 0)), due[k]);
        }
        Supplier<DepotLog> going = () -> {
            DepotLog x = Depots.ordered(10, 5, 5);
            x.advance(10);
            x.plug(1, 1);
            return x;
        };
        check.refused("at a free charger", Check.STATE, going, x -> x.plug(0, 0));
        check.refused("at one that has a bus", Check.STATE, going, x -> x.plug(0, 1));
        check.refused("the last bus, the last run", Check.STATE, FullDepot::going, x -> x.plug(4, 1));
    }

    private static void advanceMinutes(Check check) {
        check.answered("1", 1, DepotLog::new, x -> x.advance(1));
        check.answered("1000", 1000, DepotLog::new, x -> x.advance(1000));
    }

    private static void advanceAnswer(Check check) {
        DepotLog x = new DepotLog();
        int sum = 0;
        for (int minutes : new int[] {1, 1000, 439, 1, 999}) {
            sum += minutes;
            check.same("after " + sum, x.advance(minutes), sum);
            check.same("it is so", x.minute(), sum);
        }
    }

    private static void advanceRefused(Check check) {
        for (int minute : new int[] {0, 1000, 29500, 30000}) {
            Supplier<DepotLog> made = () -> Depots.at(minute);
            for (int minutes : outside(1, 1000)) {
                check.refused("minutes " + minutes + ", at " + minute, Check.ARGUMENT, made, x -> x.advance(minutes));
            }
        }
        check.refused("with runs", Check.ARGUMENT, FullDepot::going, x -> x.advance(1001));
        check.refused("with runs, by none", Check.ARGUMENT, FullDepot::going, x -> x.advance(0));
    }

    private static void advanceEnd(Check check) {
        int[] minutes = {29000, 29001, 29500, 29999};
        for (int minute : minutes) {
            Supplier<DepotLog> made = () -> Depots.at(minute);
            check.answered("to the end, from " + minute, 30000, made, x -> x.advance(30000 - minute));
        }
        check.refused("1000 from 29001", Check.STATE, () -> Depots.at(29001), x -> x.advance(1000));
        check.refused("501 from 29500", Check.STATE, () -> Depots.at(29500), x -> x.advance(501));
        check.refused("2 from 29999", Check.STATE, () -> Depots.at(29999), x -> x.advance(2));
        check.refused("1 from 30000", Check.STATE, () -> Depots.at(30000), x -> x.advance(1));
        check.refused("1000 from 30000", Check.STATE, () -> Depots.at(30000), x -> x.advance(1000));
    }
}
