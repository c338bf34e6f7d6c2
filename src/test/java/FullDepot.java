/** A depot with all 30 runs: the last one goes, and the one before is ordered, both by bus 4 and driver 4. */
final class FullDepot {
    private FullDepot() {
    }

    static DepotLog going() {
        DepotLog x = new DepotLog();
        x.lead(0, 1000);
        for (int k = 0; k < 29; k++) {
            x.run(200, 10, 10);
        }
        x.run(5, 100, 10);
        x.order(0, 0, 28, 4, 4);
        x.order(0, 1, 29, 4, 4);
        x.advance(5);
        return x;
    }
}
