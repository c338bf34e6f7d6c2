public final class Promise14StateOfTest {
    public static void main(String[] args) {
        Check check = new Check();
        DepotLog x = RunQuestions.allStates();
        check.same("waits", x.stateOf(0), DepotLog.WAITS);
        check.same("ordered", x.stateOf(1), DepotLog.ORDERED);
        check.same("goes", x.stateOf(2), DepotLog.GOES);
        check.same("done", x.stateOf(3), DepotLog.DONE);
        check.same("lost", x.stateOf(4), DepotLog.LOST);
        check.same("asked again", x.stateOf(1), DepotLog.ORDERED);
        x.ails(3, true);
        check.same("waits again", x.stateOf(1), DepotLog.WAITS);
        RunQuestions.refusals(check, DepotLog::stateOf);
        check.end();
    }
}
