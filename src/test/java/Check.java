import java.util.function.Consumer;
import java.util.function.Supplier;
import java.util.function.ToIntFunction;

/** Counts wrong answers of one test and tells them; every object it makes stays below 512 calls. */
final class Check {
    static final Class<IndexOutOfBoundsException> INDEX = IndexOutOfBoundsException.class;
    static final Class<IllegalArgumentException> ARGUMENT = IllegalArgumentException.class;
    static final Class<IllegalStateException> STATE = IllegalStateException.class;

    private static final int[] PROBED_MARKS = {0, 1, 2, 3, 5, 7, 8, 9, 998, 999};

    private int wrong = 0;
    private int asked = 0;
    private String said = "";

    /** A test of its own for one sentence of the document, which it quotes. */
    void sentence(String quote, Consumer<Check> test) {
        int before = asked;
        said = "\"" + quote + "\"\n  ";
        test.accept(this);
        if (asked == before) {
            same("answers asked for", 0, "some");
        }
        said = "";
    }

    void same(String what, Object got, Object due) {
        asked++;
        if (!due.equals(got)) {
            wrong++;
            System.out.println(said + what + ": got " + got + ", due is " + due);
        }
    }

    /** The call throws exactly this, and an object that suffered it answers on as one that did not. */
    void refused(String what, Class<? extends RuntimeException> due, Supplier<DepotLog> made, Consumer<DepotLog> call) {
        refused(what, due, made, call, tale(made.get()));
    }

    /** The same, where the tale of an object that did not suffer the call is known already. */
    void refused(String what, Class<? extends RuntimeException> due, Supplier<DepotLog> made, Consumer<DepotLog> call, String dueTale) {
        DepotLog tried = made.get();
        same(what, thrownBy(() -> call.accept(tried)), due.getSimpleName());
        same(what + ", what it leaves", tale(tried), dueTale);
    }

    /** The call is answered, by this. */
    void answered(String what, int due, Supplier<DepotLog> made, ToIntFunction<DepotLog> call) {
        DepotLog tried = made.get();
        same(what, answerOf(() -> call.applyAsInt(tried)), String.valueOf(due));
    }

    static String thrownBy(Runnable call) {
        try {
            call.run();
            return "";
        } catch (RuntimeException e) {
            return e.getClass().getSimpleName();
        }
    }

    /** What the call answers, or the name of what it throws. */
    static String answerOf(Supplier<Object> call) {
        Object[] got = new Object[1];
        String thrown = thrownBy(() -> got[0] = call.get());
        return thrown.isEmpty() ? String.valueOf(got[0]) : thrown;
    }

    /** All that an object can be made to tell, by questions first and by calls that change it then. */
    static String tale(DepotLog x) {
        StringBuilder text = new StringBuilder(seen(x));
        for (int mark : PROBED_MARKS) {
            text.append(" mark ").append(answerOf(() -> x.order(Math.max(0, x.leader()), mark, 0, 0, 0)));
        }
        for (int k = 0; k < 5; k++) {
            text.append(" advance ").append(answerOf(() -> x.advance(1))).append(" leader ").append(x.leader());
            for (int bus = 0; bus < 5; bus++) {
                text.append(' ').append(x.charge(bus));
            }
        }
        for (int dispatcher = 0; dispatcher < 2; dispatcher++) {
            text.append(" lead ").append(x.lead(dispatcher, 1));
        }
        for (int bus = 0; bus < 5; bus++) {
            text.append(" whole ").append(x.breaks(bus, false));
        }
        for (int driver = 0; driver < 5; driver++) {
            text.append(" well ").append(x.ails(driver, false));
        }
        for (int k = 0; k < 4; k++) {
            int bus = k + 1;
            int charger = k % 2;
            text.append(" plug ").append(answerOf(() -> x.plug(bus, charger)));
        }
        return text.append(" then ").append(seen(x)).toString();
    }

    /** What the questions answer. */
    static String seen(DepotLog x) {
        StringBuilder text = new StringBuilder();
        text.append("minute ").append(x.minute()).append(" leader ").append(x.leader());
        int orders = x.orders();
        text.append(" orders ").append(orders);
        for (int order = 0; order < orders; order++) {
            text.append(' ').append(x.orderAt(order));
        }
        int runs = x.runs();
        text.append(" runs ").append(runs);
        for (int run = 0; run < runs; run++) {
            text.append(' ').append(x.stateOf(run)).append('/').append(x.busOf(run)).append('/').append(x.driverOf(run));
        }
        text.append(" buses");
        for (int bus = 0; bus < 5; bus++) {
            text.append(' ').append(x.charge(bus)).append('/').append(x.promised(bus));
        }
        text.append(" drivers");
        for (int driver = 0; driver < 5; driver++) {
            text.append(' ').append(x.minutesOf(driver, 0)).append('/').append(x.minutesOf(driver, 1));
        }
        return text.toString();
    }

    void end() {
        System.out.println(wrong == 0 ? asked + " answers are as due" : wrong + " of " + asked + " answers are not as due");
        if (wrong != 0 || asked == 0) {
            System.exit(1);
        }
    }
}
