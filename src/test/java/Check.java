import java.util.function.Consumer;
import java.util.function.Supplier;
import java.util.function.ToIntFunction;

/** Counts wrong answers of one test and tells them; every object it makes stays below 512 calls. */
final class Check {
    private int wrong = 0;
    private int asked = 0;

    void same(String what, Object got, Object due) {
        asked++;
        if (!due.equals(got)) {
            wrong++;
            System.out.println(what + ": got " + got + ", due is " + due);
        }
    }

    /** The call throws exactly this, and an object that suffered it answers on as one that did not. */
    void refused(String what, Class<? extends RuntimeException> due, Supplier<DepotLog> made, Consumer<DepotLog> call) {
        DepotLog tried = made.get();
        same(what, thrownBy(() -> call.accept(tried)), due.getSimpleName());
        same(what + ", what it leaves", tale(tried), tale(made.get()));
    }

    /** The call is answered, by this. */
    void answered(String what, int due, Supplier<DepotLog> made, ToIntFunction<DepotLog> call) {
        DepotLog tried = made.get();
        int[] got = new int[1];
        String thrown = thrownBy(() -> got[0] = call.applyAsInt(tried));
        same(what, thrown.isEmpty() ? String.valueOf(got[0]) : thrown, String.valueOf(due));
    }

    static String thrownBy(Runnable call) {
        try {
            call.run();
            return "";
        } catch (RuntimeException e) {
            return e.getClass().getSimpleName();
        }
    }

    /** All that an object can be made to tell, by questions first and by calls that change it then. */
    static String tale(DepotLog x) {
        StringBuilder text = new StringBuilder(seen(x));
        for (int k = 0; k < 5; k++) {
            text.append(" advance ").append(x.advance(1)).append(" leader ").append(x.leader());
            for (int bus = 0; bus < 5; bus++) {
                text.append(' ').append(x.charge(bus));
            }
        }
        for (int dispatcher = 0; dispatcher < 2; dispatcher++) {
            text.append(" lead ").append(x.lead(dispatcher, 1));
        }
        for (int bus = 0; bus < 5; bus++) {
            text.append(" whole ").append(x.breaks(bus, false));
        }
        for (int driver = 0; driver < 5; driver++) {
            text.append(" well ").append(x.ails(driver, false));
        }
        for (int k = 0; k < 4; k++) {
            int bus = k + 1;
            int charger = k % 2;
            int[] left = new int[1];
            String thrown = thrownBy(() -> left[0] = x.plug(bus, charger));
            text.append(" plug ").append(left[0]).append(thrown);
        }
        return text.append(" then ").append(seen(x)).toString();
    }

    /** What the questions answer. */
    static String seen(DepotLog x) {
        StringBuilder text = new StringBuilder();
        text.append("minute ").append(x.minute()).append(" leader ").append(x.leader());
        text.append(" orders");
        for (int order = 0; order < x.orders(); order++) {
            text.append(' ').append(x.orderAt(order));
        }
        text.append(" runs");
        for (int run = 0; run < x.runs(); run++) {
            text.append(' ').append(x.stateOf(run)).append('/').append(x.busOf(run)).append('/').append(x.driverOf(run));
        }
        text.append(" buses");
        for (int bus = 0; bus < 5; bus++) {
            text.append(' ').append(x.charge(bus)).append('/').append(x.promised(bus));
        }
        text.append(" drivers");
        for (int driver = 0; driver < 5; driver++) {
            text.append(' ').append(x.minutesOf(driver, 0)).append('/').append(x.minutesOf(driver, 1));
        }
        return text.toString();
    }

    void end() {
        System.out.println(wrong == 0 ? asked + " answers are as due" : wrong + " of " + asked + " answers are not as due");
        if (wrong != 0 || asked == 0) {
            System.exit(1);
        }
    }
}
