public final class Promise15BusOfTest {
    public static void main(String[] args) {
        Check check = new Check();
        DepotLog x = RunQuestions.allStates();
        check.same("waits", x.busOf(0), DepotLog.NONE);
        check.same("ordered", x.busOf(1), 4);
        check.same("goes", x.busOf(2), 3);
        check.same("done", x.busOf(3), 2);
        check.same("lost", x.busOf(4), DepotLog.NONE);
        x.breaks(4, true);
        check.same("waits again", x.busOf(1), DepotLog.NONE);
        x.breaks(3, true);
        check.same("swapped", x.busOf(2), 0);
        x.breaks(2, true);
        check.same("done, its bus broken", x.busOf(3), 2);
        RunQuestions.refusals(check, DepotLog::busOf);
        check.end();
    }
}
