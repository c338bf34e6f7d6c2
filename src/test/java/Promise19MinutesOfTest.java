public final class Promise19MinutesOfTest {
    public static void main(String[] args) {
        Check check = new Check();
        DepotLog x = RunQuestions.allStates();
        check.same("a driver without runs", x.minutesOf(0, 0), 0);
        check.same("ordered", x.minutesOf(3, 0), 20);
        check.same("goes", x.minutesOf(2, 0), 30);
        check.same("done", x.minutesOf(1, 0), 10);
        x.order(0, 9, 0, 2, 1);
        check.same("done and ordered", x.minutesOf(1, 0), 20);
        x.ails(1, true);
        check.same("done, the other one waits", x.minutesOf(1, 0), 10);
        days(check);
        int[] none = {5, -1, Integer.MIN_VALUE, Integer.MAX_VALUE};
        for (int driver : none) {
            check.refused("driver " + driver, IndexOutOfBoundsException.class, RunQuestions::allStates, y -> y.minutesOf(driver, 0));
            check.refused("driver " + driver + ", no day", IndexOutOfBoundsException.class, RunQuestions::allStates, y -> y.minutesOf(driver, -1));
        }
        check.end();
    }

    private static void days(Check check) {
        DepotLog x = new DepotLog();
        x.lead(0, 100);
        x.run(1400, 40, 1);
        x.run(1440, 50, 1);
        x.run(20000, 160, 1);
        for (int k = 0; k < 3; k++) {
            x.order(0, k, k, k, 4);
        }
        check.same("day 0, up to its end", x.minutesOf(4, 0), 40);
        check.same("day 1, from its begin", x.minutesOf(4, 1), 50);
        check.same("day 2", x.minutesOf(4, 2), 0);
        check.same("day 13", x.minutesOf(4, 13), 160);
        check.same("day 14", x.minutesOf(4, 14), 0);
        check.same("day -1", x.minutesOf(4, -1), 0);
        check.same("the lowest day", x.minutesOf(4, Integer.MIN_VALUE), 0);
        check.same("the highest day", x.minutesOf(4, Integer.MAX_VALUE), 0);
    }
}
