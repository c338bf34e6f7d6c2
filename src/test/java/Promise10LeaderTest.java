public final class Promise10LeaderTest {
    public static void main(String[] args) {
        Check check = new Check();
        DepotLog x = new DepotLog();
        check.same("at first", x.leader(), DepotLog.NONE);
        x.lead(1, 1);
        check.same("dispatcher 1", x.leader(), 1);
        x.lead(0, 1);
        check.same("a lease that was not given", x.leader(), 1);
        x.advance(1);
        check.same("it has ended", x.leader(), DepotLog.NONE);
        x.lead(0, 3);
        check.same("dispatcher 0", x.leader(), 0);
        x.advance(2);
        check.same("the last minute", x.leader(), 0);
        check.same("asking changes nothing", x.leader(), 0);
        x.advance(1);
        check.same("the minute at which it ends", x.leader(), DepotLog.NONE);
        x.advance(500);
        check.same("long after", x.leader(), DepotLog.NONE);
        check.end();
    }
}
