import java.util.function.Supplier;

public final class Promise03LeadTest {
    public static void main(String[] args) {
        Check check = new Check();
        takes(check);
        anew(check);
        wrong(check);
        check.end();
    }

    private static void takes(Check check) {
        DepotLog x = new DepotLog();
        check.same("nobody leads", x.lead(1, 10), true);
        check.same("the other one leads", x.lead(0, 10), false);
        check.same("leader still", x.leader(), 1);
        x.advance(9);
        check.same("the last minute of the lease", x.lead(0, 10), false);
        check.same("leader in it", x.leader(), 1);
        x.advance(1);
        check.same("leader at its end", x.leader(), DepotLog.NONE);
        check.same("the lease has ended", x.lead(0, 1000), true);
        check.same("leader then", x.leader(), 0);
        x.advance(999);
        check.same("leader before 1000 minutes", x.leader(), 0);
        x.advance(1);
        check.same("leader after 1000 minutes", x.leader(), DepotLog.NONE);
        check.same("the same one again", x.lead(0, 1), true);
    }

    private static void anew(Check check) {
        DepotLog x = new DepotLog();
        x.lead(0, 10);
        x.advance(5);
        check.same("anew, for longer", x.lead(0, 20), true);
        x.advance(19);
        check.same("leader by the new lease", x.leader(), 0);
        x.advance(1);
        check.same("leader at its end", x.leader(), DepotLog.NONE);
        x.lead(0, 100);
        check.same("anew, for shorter", x.lead(0, 2), true);
        x.advance(2);
        check.same("leader at the shorter end", x.leader(), DepotLog.NONE);
        x.lead(1, 2);
        x.lead(0, 500);
        x.advance(2);
        check.same("a lease refused is none", x.leader(), DepotLog.NONE);
    }

    private static void wrong(Check check) {
        Supplier<DepotLog> led = () -> {
            DepotLog x = new DepotLog();
            x.lead(0, 3);
            return x;
        };
        int[] noDispatchers = {2, -1, Integer.MIN_VALUE, Integer.MAX_VALUE};
        for (int d : noDispatchers) {
            check.refused("dispatcher " + d, IndexOutOfBoundsException.class, led, x -> x.lead(d, 1));
            check.refused("dispatcher first " + d, IndexOutOfBoundsException.class, led, x -> x.lead(d, 0));
        }
        int[] noMinutes = {0, 1001, -1, Integer.MIN_VALUE, Integer.MAX_VALUE};
        for (int m : noMinutes) {
            check.refused("minutes " + m, IllegalArgumentException.class, led, x -> x.lead(0, m));
            check.refused("minutes, who does not lead " + m, IllegalArgumentException.class, led, x -> x.lead(1, m));
        }
    }
}
