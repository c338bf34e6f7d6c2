/** Depots in the states that several tests begin with. */
final class Depots {
    private Depots() {
    }

    /** Runs told to a depot: three numbers for each, its start, minutes and charge. */
    static DepotLog told(int... runs) {
        DepotLog x = new DepotLog();
        for (int k = 0; k + 2 < runs.length; k += 3) {
            x.run(runs[k], runs[k + 1], runs[k + 2]);
        }
        return x;
    }

    /** The same, and the dispatcher 0 leads for 1000 minutes. */
    static DepotLog led(int... runs) {
        DepotLog x = told(runs);
        x.lead(0, 1000);
        return x;
    }

    /** Led, and the run 0 is ordered for bus 0 and driver 0 by the mark 0. */
    static DepotLog ordered(int... runs) {
        DepotLog x = led(runs);
        x.order(0, 0, 0, 0, 0);
        return x;
    }

    /** A depot in which nothing but time has passed. */
    static DepotLog at(int minute) {
        DepotLog x = new DepotLog();
        pass(x, minute);
        return x;
    }

    static void pass(DepotLog x, int minute) {
        while (x.minute() < minute) {
            x.advance(Math.min(1000, minute - x.minute()));
        }
    }

    /** As many runs, all of them from 2 to 3 and needing 1. */
    static DepotLog withRuns(int runs) {
        DepotLog x = new DepotLog();
        for (int k = 0; k < runs; k++) {
            x.run(2, 1, 1);
        }
        return x;
    }
}
