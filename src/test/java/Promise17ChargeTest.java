public final class Promise17ChargeTest {
    public static void main(String[] args) {
        Check check = new Check();
        DepotLog x = RunQuestions.allStates();
        check.same("a bus without runs", x.charge(0), 100);
        check.same("of one whose run is ordered", x.charge(4), 100);
        check.same("of one whose run goes", x.charge(3), 70);
        check.same("of one whose run is done", x.charge(2), 60);
        x.plug(2, 1);
        x.advance(7);
        check.same("loaded", x.charge(2), 67);
        x.breaks(2, true);
        x.advance(7);
        check.same("off its charger", x.charge(2), 67);
        x.breaks(3, true);
        check.same("of the bus that took over", x.charge(0), 70);
        check.same("of the bus that broke", x.charge(3), 70);
        emptied(check);
        int[] none = {5, -1, Integer.MIN_VALUE, Integer.MAX_VALUE};
        for (int bus : none) {
            check.refused("bus " + bus, IndexOutOfBoundsException.class, RunQuestions::allStates, y -> y.charge(bus));
        }
        check.end();
    }

    private static void emptied(Check check) {
        DepotLog x = new DepotLog();
        x.lead(0, 100);
        x.run(10, 10, 100);
        x.order(0, 0, 0, 4, 4);
        x.advance(10);
        check.same("all of it", x.charge(4), 0);
    }
}
