import java.util.function.Supplier;

public final class Promise02RunTest {
    private static final Supplier<DepotLog> NEW = DepotLog::new;
    private static final Class<IllegalArgumentException> ARGUMENT = IllegalArgumentException.class;

    public static void main(String[] args) {
        Check check = new Check();
        numbersRise(check);
        edges(check);
        wrongArguments(check);
        later(check);
        full(check);
        check.end();
    }

    private static void numbersRise(Check check) {
        DepotLog x = new DepotLog();
        check.same("first", x.run(10, 20, 30), 0);
        check.same("second, the same again", x.run(10, 20, 30), 1);
        check.same("third", x.run(5, 1, 0), 2);
        check.same("runs", x.runs(), 3);
        check.same("state", x.stateOf(1), DepotLog.WAITS);
        check.same("bus", x.busOf(1), DepotLog.NONE);
        check.same("driver", x.driverOf(1), DepotLog.NONE);
    }

    private static void edges(Check check) {
        check.answered("the next minute", 0, NEW, x -> x.run(1, 1, 0));
        check.answered("the last start", 0, NEW, x -> x.run(20000, 1, 0));
        check.answered("the longest", 0, NEW, x -> x.run(1, 600, 100));
        check.answered("to the day's end", 0, NEW, x -> x.run(840, 600, 0));
        check.answered("to the day's end, short", 0, NEW, x -> x.run(1439, 1, 0));
        check.answered("from a day's begin", 0, NEW, x -> x.run(1440, 600, 0));
        check.answered("a day's first minute alone", 0, NEW, x -> x.run(1440, 1, 0));
        check.answered("to a later day's end", 0, NEW, x -> x.run(2 * 1440 - 5, 5, 0));
        check.answered("the last start of all, long", 0, NEW, x -> x.run(20000, 160, 0));
    }

    private static void wrongArguments(Check check) {
        int[][] wrong = {
            {0, 1, 0}, {-1, 1, 0}, {Integer.MIN_VALUE, 1, 0}, {20001, 1, 0}, {Integer.MAX_VALUE, 1, 0},
            {1, 0, 0}, {1, -1, 0}, {1, 601, 0}, {1, Integer.MIN_VALUE, 0}, {1, Integer.MAX_VALUE, 0},
            {1439, 2, 0}, {841, 600, 0}, {2879, 2, 0}, {20000, 161, 0},
            {1, 1, -1}, {1, 1, 101}, {1, 1, Integer.MIN_VALUE}, {1, 1, Integer.MAX_VALUE},
        };
        for (int[] a : wrong) {
            String what = "run(" + a[0] + ", " + a[1] + ", " + a[2] + ")";
            check.refused(what, ARGUMENT, NEW, x -> x.run(a[0], a[1], a[2]));
        }
    }

    private static void later(Check check) {
        Supplier<DepotLog> at50 = () -> {
            DepotLog x = new DepotLog();
            x.advance(50);
            return x;
        };
        check.refused("a start past", ARGUMENT, at50, x -> x.run(49, 1, 0));
        check.refused("a start now", ARGUMENT, at50, x -> x.run(50, 1, 0));
        check.answered("a start in a minute", 0, at50, x -> x.run(51, 1, 0));
    }

    private static void full(Check check) {
        Supplier<DepotLog> with30 = () -> Depots.withRuns(30);
        check.answered("the thirtieth", 29, () -> Depots.withRuns(29), x -> x.run(1, 1, 1));
        check.refused("the thirty-first", IllegalStateException.class, with30, x -> x.run(1, 1, 1));
        check.refused("the thirty-first, start wrong", ARGUMENT, with30, x -> x.run(0, 1, 1));
        check.refused("the thirty-first, minutes wrong", ARGUMENT, with30, x -> x.run(1, 0, 1));
        check.refused("the thirty-first, over the day's end", ARGUMENT, with30, x -> x.run(1439, 2, 1));
        check.refused("the thirty-first, charge wrong", ARGUMENT, with30, x -> x.run(1, 1, 101));
        DepotLog x = Depots.withRuns(30);
        x.advance(10);
        check.same("lost runs keep their places", Check.thrownBy(() -> x.run(20, 1, 1)), "IllegalStateException");
    }
}
