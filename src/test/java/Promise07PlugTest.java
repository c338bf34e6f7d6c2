import java.util.function.Supplier;

public final class Promise07PlugTest {
    public static void main(String[] args) {
        Check check = new Check();
        leaves(check);
        loads(check);
        wrong(check);
        ordered(check);
        check.refused("the last of 30 runs goes", IllegalStateException.class, FullDepot::going, x -> x.plug(4, 0));
        check.answered("another bus, with 30 runs", DepotLog.NONE, FullDepot::going, x -> x.plug(0, 0));
        check.end();
    }

    private static void leaves(Check check) {
        DepotLog x = new DepotLog();
        check.same("free", x.plug(0, 0), DepotLog.NONE);
        check.same("had this bus", x.plug(0, 0), DepotLog.NONE);
        check.same("another one comes", x.plug(4, 0), 0);
        check.same("the other charger is free", x.plug(0, 1), DepotLog.NONE);
        check.same("it takes the other one's place", x.plug(4, 1), 0);
        check.same("and left its own", x.plug(2, 0), DepotLog.NONE);
        check.same("they change", x.plug(2, 1), 4);
        check.same("the first is free then", x.plug(3, 0), DepotLog.NONE);
    }

    private static void loads(Check check) {
        DepotLog x = new DepotLog();
        x.lead(0, 1000);
        x.run(1, 10, 50);
        x.run(1, 10, 60);
        x.order(0, 0, 0, 0, 0);
        x.order(0, 1, 1, 1, 1);
        x.advance(11);
        x.plug(0, 0);
        x.plug(1, 1);
        check.same("not at once", x.charge(0), 50);
        x.advance(5);
        check.same("5 loaded", x.charge(0), 55);
        check.same("5 loaded by the other one", x.charge(1), 45);
        x.plug(1, 0);
        x.advance(5);
        check.same("who left is not loaded", x.charge(0), 55);
        check.same("who changed is loaded once", x.charge(1), 50);
        x.breaks(1, true);
        x.plug(1, 0);
        x.advance(5);
        check.same("a broken bus is loaded too", x.charge(1), 55);
    }

    private static void wrong(Check check) {
        Supplier<DepotLog> going = () -> {
            DepotLog x = new DepotLog();
            x.lead(0, 1000);
            x.run(1, 10, 50);
            x.order(0, 0, 0, 2, 0);
            x.plug(3, 0);
            x.plug(2, 1);
            x.advance(1);
            return x;
        };
        int[] none = {-1, Integer.MIN_VALUE, Integer.MAX_VALUE};
        for (int n : none) {
            check.refused("bus " + n, IndexOutOfBoundsException.class, going, x -> x.plug(n, 0));
            check.refused("charger " + n, IndexOutOfBoundsException.class, going, x -> x.plug(1, n));
        }
        check.refused("bus 5", IndexOutOfBoundsException.class, going, x -> x.plug(5, 0));
        check.refused("charger 2", IndexOutOfBoundsException.class, going, x -> x.plug(0, 2));
        check.refused("charger before the run that goes", IndexOutOfBoundsException.class, going, x -> x.plug(2, 2));
        check.refused("a run goes", IllegalStateException.class, going, x -> x.plug(2, 0));
        check.refused("a run goes, the free one", IllegalStateException.class, going, x -> x.plug(2, 1));
        check.answered("another bus", 3, going, x -> x.plug(1, 0));
        check.answered("it left when it went", DepotLog.NONE, going, x -> x.plug(1, 1));
        Supplier<DepotLog> back = () -> {
            DepotLog x = going.get();
            x.advance(10);
            return x;
        };
        check.answered("the run is done", 3, back, x -> x.plug(2, 0));
    }

    private static void ordered(Check check) {
        DepotLog x = new DepotLog();
        x.lead(0, 1000);
        x.run(20, 10, 50);
        x.order(0, 0, 0, 2, 0);
        check.same("an ordered run hinders nothing", x.plug(2, 0), DepotLog.NONE);
        x.breaks(3, true);
        check.same("nor that the bus is broken", x.plug(3, 1), DepotLog.NONE);
    }
}
