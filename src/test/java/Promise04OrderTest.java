import java.util.function.Supplier;

public final class Promise04OrderTest {
    private static final Class<IllegalStateException> STATE = IllegalStateException.class;
    private static final Class<IllegalArgumentException> ARGUMENT = IllegalArgumentException.class;
    private static final Class<IndexOutOfBoundsException> INDEX = IndexOutOfBoundsException.class;

    public static void main(String[] args) {
        Check check = new Check();
        ordinary(check);
        marks(check);
        wrongNumbers(check);
        leading(check);
        states(check);
        busFit(check);
        busCharge(check);
        driverHours(check);
        driverRest(check);
        manyOrders(check);
        check.end();
    }

    private static void ordinary(Check check) {
        DepotLog x = Depots.led(10, 60, 40, 10, 60, 30);
        check.same("first", x.order(0, 999, 1, 2, 3), 0);
        check.same("second", x.order(0, 0, 0, 4, 1), 1);
        check.same("state", x.stateOf(1), DepotLog.ORDERED);
        check.same("bus", x.busOf(1), 2);
        check.same("driver", x.driverOf(1), 3);
        check.same("promised", x.promised(2), 30);
        check.same("charge", x.charge(2), 100);
        check.same("minutes", x.minutesOf(3, 0), 60);
        check.same("orders", x.orders(), 2);
    }

    private static void marks(Check check) {
        Supplier<DepotLog> ordered = () -> {
            DepotLog x = Depots.led(10, 60, 40, 10, 60, 40, 5, 60, 40);
            x.breaks(4, true);
            x.ails(4, true);
            x.order(0, 3, 0, 0, 0);
            x.order(0, 5, 1, 1, 1);
            return x;
        };
        check.answered("its own again", 0, ordered, x -> x.order(0, 3, 0, 0, 0));
        check.answered("another run", 1, ordered, x -> x.order(0, 5, 2, 2, 2));
        check.answered("who doesn't lead", 1, ordered, x -> x.order(1, 5, 2, 2, 2));
        check.answered("nothing fit", 0, ordered, x -> x.order(1, 3, 2, 4, 4));
        DepotLog x = ordered.get();
        String before = Check.tale(ordered.get());
        x.order(0, 5, 2, 2, 2);
        check.same("a double order changes nothing", Check.tale(x), before);
        DepotLog y = ordered.get();
        y.breaks(0, true);
        check.same("the mark stays when the run waits again", y.order(0, 3, 0, 1, 0), 0);
        check.same("and orders nothing", y.stateOf(0), DepotLog.WAITS);
        y.advance(1000);
        check.same("the mark stays when nobody leads", y.order(1, 3, 2, 3, 3), 0);
        DepotLog z = ordered.get();
        Check.thrownBy(() -> z.order(1, 8, 2, 2, 2));
        check.same("a refused order leaves its mark free", z.order(0, 8, 2, 2, 2), 2);
    }

    private static void wrongNumbers(Check check) {
        Supplier<DepotLog> one = () -> Depots.led(10, 60, 40);
        int[] none = {-1, Integer.MIN_VALUE, Integer.MAX_VALUE};
        for (int n : none) {
            check.refused("dispatcher " + n, INDEX, one, x -> x.order(n, 0, 0, 0, 0));
            check.refused("run " + n, INDEX, one, x -> x.order(0, 0, n, 0, 0));
            check.refused("bus " + n, INDEX, one, x -> x.order(0, 0, 0, n, 0));
            check.refused("driver " + n, INDEX, one, x -> x.order(0, 0, 0, 0, n));
            check.refused("mark " + n, ARGUMENT, one, x -> x.order(0, n, 0, 0, 0));
        }
        check.refused("dispatcher 2", INDEX, one, x -> x.order(2, 0, 0, 0, 0));
        check.refused("run 1", INDEX, one, x -> x.order(0, 0, 1, 0, 0));
        check.refused("run 29, not told", INDEX, one, x -> x.order(0, 0, 29, 0, 0));
        check.refused("bus 5", INDEX, one, x -> x.order(0, 0, 0, 5, 0));
        check.refused("driver 5", INDEX, one, x -> x.order(0, 0, 0, 0, 5));
        check.refused("mark 1000", ARGUMENT, one, x -> x.order(0, 1000, 0, 0, 0));
        check.refused("dispatcher before mark", INDEX, one, x -> x.order(2, 1000, 0, 0, 0));
        check.refused("run before mark", INDEX, one, x -> x.order(0, 1000, 1, 0, 0));
        check.refused("bus before mark", INDEX, one, x -> x.order(0, 1000, 0, 5, 0));
        check.refused("driver before mark", INDEX, one, x -> x.order(0, 1000, 0, 0, 5));
        check.refused("mark before what does not lead", ARGUMENT, one, x -> x.order(1, 1000, 0, 0, 0));
        check.refused("bus before what does not lead", INDEX, one, x -> x.order(1, 0, 0, 5, 0));
        Supplier<DepotLog> marked = () -> {
            DepotLog x = Depots.led(10, 60, 40);
            x.order(0, 4, 0, 0, 0);
            return x;
        };
        check.refused("dispatcher, by a known mark", INDEX, marked, x -> x.order(2, 4, 0, 0, 0));
        check.refused("run, by a known mark", INDEX, marked, x -> x.order(0, 4, 1, 0, 0));
        check.refused("bus, by a known mark", INDEX, marked, x -> x.order(0, 4, 0, 5, 0));
        check.refused("driver, by a known mark", INDEX, marked, x -> x.order(0, 4, 0, 0, 5));
    }

    private static void leading(Check check) {
        Supplier<DepotLog> unled = () -> {
            DepotLog x = new DepotLog();
            x.run(100, 10, 1);
            return x;
        };
        check.refused("nobody leads", STATE, unled, x -> x.order(0, 0, 0, 0, 0));
        check.refused("the other one leads", STATE, () -> Depots.led(100, 10, 1), x -> x.order(1, 0, 0, 0, 0));
        Supplier<DepotLog> ended = () -> {
            DepotLog x = unled.get();
            x.lead(1, 5);
            x.advance(5);
            return x;
        };
        check.refused("the lease has ended", STATE, ended, x -> x.order(1, 0, 0, 0, 0));
        Supplier<DepotLog> last = () -> {
            DepotLog x = unled.get();
            x.lead(1, 5);
            x.advance(4);
            return x;
        };
        check.answered("the lease's last minute", 0, last, x -> x.order(1, 0, 0, 0, 0));
    }

    private static void states(Check check) {
        Supplier<DepotLog> all = () -> {
            DepotLog x = Depots.led(10, 60, 1, 10, 5, 1, 10, 5, 1, 900, 5, 1, 17, 1, 1);
            x.order(0, 0, 0, 0, 0);
            x.order(0, 1, 1, 1, 1);
            x.order(0, 2, 3, 2, 2);
            x.advance(16);
            return x;
        };
        check.refused("GOES", STATE, all, x -> x.order(0, 9, 0, 4, 4));
        check.refused("DONE", STATE, all, x -> x.order(0, 9, 1, 4, 4));
        check.refused("LOST", STATE, all, x -> x.order(0, 9, 2, 4, 4));
        check.refused("ORDERED", STATE, all, x -> x.order(0, 9, 3, 4, 4));
        check.answered("WAITS, to start in a minute", 3, all, x -> x.order(0, 9, 4, 4, 4));
    }

    private static void busFit(Check check) {
        Supplier<DepotLog> broken = () -> {
            DepotLog x = Depots.led(10, 60, 1);
            x.breaks(3, true);
            return x;
        };
        check.refused("a broken bus", STATE, broken, x -> x.order(0, 0, 0, 3, 0));
        check.answered("a whole bus", 0, broken, x -> x.order(0, 0, 0, 2, 0));
        meets(check, "at its end", 60, 10, true);
        meets(check, "a minute before its end", 59, 10, false);
        meets(check, "within", 35, 5, false);
        meets(check, "around", 20, 60, false);
        meets(check, "the same", 30, 30, false);
        meets(check, "up to its start", 20, 10, true);
        meets(check, "up to a minute in it", 20, 11, false);
        meetsWhileGoing(check);
    }

    /** Bus 0 has an ORDERED run from 30 to 60; another one is ordered for it. */
    private static void meets(Check check, String what, int start, int minutes, boolean isFit) {
        Supplier<DepotLog> busy = () -> {
            DepotLog x = Depots.led(30, 30, 1, start, minutes, 1);
            x.order(0, 0, 0, 0, 0);
            return x;
        };
        if (isFit) {
            check.answered(what, 1, busy, x -> x.order(0, 1, 1, 0, 1));
        } else {
            check.refused(what, STATE, busy, x -> x.order(0, 1, 1, 0, 1));
        }
        check.answered(what + ", another bus", 1, busy, x -> x.order(0, 1, 1, 1, 1));
    }

    private static void meetsWhileGoing(Check check) {
        Supplier<DepotLog> going = () -> {
            DepotLog x = Depots.led(30, 30, 1, 59, 10, 1, 60, 10, 1);
            x.order(0, 0, 0, 0, 0);
            x.advance(31);
            return x;
        };
        check.refused("meets a run that goes", STATE, going, x -> x.order(0, 1, 1, 0, 1));
        check.answered("begins when it ends", 1, going, x -> x.order(0, 1, 2, 0, 1));
    }

    private static void busCharge(Check check) {
        Supplier<DepotLog> some = () -> {
            DepotLog x = Depots.led(10, 5, 60, 100, 5, 41, 100, 5, 40, 200, 5, 1, 200, 5, 0);
            x.order(0, 0, 0, 0, 0);
            return x;
        };
        check.refused("more than is not promised", STATE, some, x -> x.order(0, 1, 1, 0, 1));
        check.answered("all that is not promised", 1, some, x -> x.order(0, 1, 2, 0, 1));
        Supplier<DepotLog> none = () -> {
            DepotLog x = some.get();
            x.order(0, 1, 2, 0, 1);
            return x;
        };
        check.refused("nothing is left", STATE, none, x -> x.order(0, 2, 3, 0, 2));
        check.answered("nothing is needed", 2, none, x -> x.order(0, 2, 4, 0, 2));
        Supplier<DepotLog> taken = () -> {
            DepotLog x = some.get();
            x.advance(50);
            return x;
        };
        check.refused("more than the charge that is left", STATE, taken, x -> x.order(0, 1, 1, 0, 1));
        check.answered("the charge that is left", 1, taken, x -> x.order(0, 1, 2, 0, 1));
    }

    private static void driverHours(Check check) {
        Supplier<DepotLog> ill = () -> {
            DepotLog x = Depots.led(10, 60, 1);
            x.ails(3, true);
            return x;
        };
        check.refused("an ill driver", STATE, ill, x -> x.order(0, 0, 0, 0, 3));
        check.answered("a well driver", 0, ill, x -> x.order(0, 0, 0, 0, 2));
        check.answered("480 minutes", 0, () -> Depots.led(10, 480, 1), x -> x.order(0, 0, 0, 0, 0));
        check.refused("481 minutes", STATE, () -> Depots.led(10, 481, 1), x -> x.order(0, 0, 0, 0, 0));
        Supplier<DepotLog> worked = () -> {
            DepotLog x = Depots.led(10, 400, 1, 500, 80, 1, 500, 81, 1, 1440, 480, 1);
            x.order(0, 0, 0, 0, 0);
            return x;
        };
        check.answered("480 minutes in all", 1, worked, x -> x.order(0, 1, 1, 1, 0));
        check.refused("481 minutes in all", STATE, worked, x -> x.order(0, 1, 2, 1, 0));
        check.answered("480 minutes on the next day", 1, worked, x -> x.order(0, 1, 3, 1, 0));
        Supplier<DepotLog> done = () -> {
            DepotLog x = worked.get();
            x.advance(450);
            return x;
        };
        check.answered("480 minutes with what is done", 1, done, x -> x.order(0, 1, 1, 1, 0));
        check.refused("481 minutes with what is done", STATE, done, x -> x.order(0, 1, 2, 1, 0));
        Supplier<DepotLog> going = () -> {
            DepotLog x = worked.get();
            x.advance(50);
            return x;
        };
        check.refused("481 minutes with what goes", STATE, going, x -> x.order(0, 1, 2, 1, 0));
    }

    private static void driverRest(Check check) {
        rest(check, "30 minutes after", 130, 10, true);
        rest(check, "29 minutes after", 129, 10, false);
        rest(check, "30 minutes before", 40, 10, true);
        rest(check, "29 minutes before", 40, 11, false);
        rest(check, "at once after", 100, 10, false);
        rest(check, "within", 85, 5, false);
        rest(check, "around", 50, 100, false);
        Supplier<DepotLog> night = () -> {
            DepotLog x = Depots.led(1400, 40, 1, 1440, 40, 1);
            x.order(0, 0, 0, 0, 0);
            return x;
        };
        check.answered("no rest from day to day", 1, night, x -> x.order(0, 1, 1, 0, 0));
        restFromRunsUnderWay(check);
    }

    /** Driver 0 has an ORDERED run from 80 to 100; another one is ordered for the driver. */
    private static void rest(Check check, String what, int start, int minutes, boolean isFit) {
        Supplier<DepotLog> busy = () -> {
            DepotLog x = Depots.led(80, 20, 1, start, minutes, 1);
            x.order(0, 0, 0, 0, 0);
            return x;
        };
        if (isFit) {
            check.answered(what, 1, busy, x -> x.order(0, 1, 1, 1, 0));
        } else {
            check.refused(what, STATE, busy, x -> x.order(0, 1, 1, 1, 0));
        }
        check.answered(what + ", another driver", 1, busy, x -> x.order(0, 1, 1, 1, 1));
    }

    private static void restFromRunsUnderWay(Check check) {
        for (int now = 80; now <= 105; now += 25) {
            int minutes = now;
            Supplier<DepotLog> later = () -> {
                DepotLog x = Depots.led(80, 20, 1, 129, 10, 1, 130, 10, 1);
                x.order(0, 0, 0, 0, 0);
                x.advance(minutes);
                return x;
            };
            check.refused("29 minutes after, at " + now, STATE, later, x -> x.order(0, 1, 1, 1, 0));
            check.answered("30 minutes after, at " + now, 1, later, x -> x.order(0, 1, 2, 1, 0));
        }
    }

    private static void manyOrders(Check check) {
        DepotLog x = Depots.led(900, 60, 100);
        for (int k = 0; k < 150; k++) {
            check.same("order " + k, x.order(0, 3 * k, 0, 0, k % 2), k);
            x.breaks(0, true);
            x.breaks(0, false);
        }
        check.same("orders", x.orders(), 150);
        check.same("the first one's mark", x.order(1, 0, 0, 0, 0), 0);
        check.same("the last one's mark", x.order(1, 447, 0, 0, 0), 149);
        check.same("the first one", x.orderAt(0), 0);
        check.same("the last one", x.orderAt(149), 1);
    }
}
