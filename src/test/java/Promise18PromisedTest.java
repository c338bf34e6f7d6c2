public final class Promise18PromisedTest {
    public static void main(String[] args) {
        Check check = new Check();
        DepotLog x = RunQuestions.allStates();
        check.same("a bus without runs", x.promised(0), 0);
        check.same("of one whose run is ordered", x.promised(4), 20);
        check.same("of one whose run goes", x.promised(3), 0);
        check.same("of one whose run is done", x.promised(2), 0);
        x.run(200, 10, 80);
        x.order(0, 7, 5, 4, 0);
        check.same("the sum of two", x.promised(4), 100);
        x.order(0, 8, 0, 3, 4);
        check.same("of one that goes and is ordered", x.promised(3), 10);
        x.advance(60);
        check.same("one of the two goes", x.promised(4), 80);
        x.ails(0, true);
        check.same("the other one waits", x.promised(4), 0);
        int[] none = {5, -1, Integer.MIN_VALUE, Integer.MAX_VALUE};
        for (int bus : none) {
            check.refused("bus " + bus, IndexOutOfBoundsException.class, RunQuestions::allStates, y -> y.promised(bus));
        }
        check.end();
    }
}
