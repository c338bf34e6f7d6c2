public final class Promise16DriverOfTest {
    public static void main(String[] args) {
        Check check = new Check();
        DepotLog x = RunQuestions.allStates();
        check.same("waits", x.driverOf(0), DepotLog.NONE);
        check.same("ordered", x.driverOf(1), 3);
        check.same("goes", x.driverOf(2), 2);
        check.same("done", x.driverOf(3), 1);
        check.same("lost", x.driverOf(4), DepotLog.NONE);
        x.ails(3, true);
        check.same("waits again", x.driverOf(1), DepotLog.NONE);
        x.ails(2, true);
        check.same("swapped", x.driverOf(2), 0);
        x.ails(1, true);
        check.same("done, its driver ill", x.driverOf(3), 1);
        RunQuestions.refusals(check, DepotLog::driverOf);
        check.end();
    }
}
