import java.util.LinkedHashMap;
import java.util.Map;
import java.util.function.Consumer;
import java.util.function.Function;

/**
 * Every call with many choices of edge arguments, in several states, beside the model: the same answer or the
 * same exception, which is so the one that stands first; and what a refused call leaves is as if it had not been.
 */
public final class ArgumentGridTest {
    private static final int LEAST = Integer.MIN_VALUE;
    private static final int MOST = Integer.MAX_VALUE;

    private final Check check = new Check();
    private final String name;
    private final Consumer<Told> state;
    private final String tale;

    private ArgumentGridTest(String name, Consumer<Told> state) {
        this.name = name;
        this.state = state;
        this.tale = Check.tale(made().depot);
    }

    public static void main(String[] args) {
        Map<String, Consumer<Told>> states = new LinkedHashMap<>();
        states.put("new", x -> { });
        states.put("unled", ArgumentGridTest::unled);
        states.put("busy", ArgumentGridTest::busy);
        states.put("full", ArgumentGridTest::full);
        states.put("at the end", x -> pass(x, 30000));
        states.forEach((name, state) -> {
            ArgumentGridTest grid = new ArgumentGridTest(name, state);
            grid.calls();
            grid.orders();
            grid.questions();
            System.out.print(name + ": ");
            grid.check.end();
        });
    }

    private static void pass(Told x, int minutes) {
        for (int left = minutes; left > 0; left -= 1000) {
            x.advance(Math.min(1000, left));
        }
    }

    private static void unled(Told x) {
        x.run(10, 5, 5);
        x.run(20, 5, 5);
        x.lead(1, 5);
        x.order(1, 999, 0, 0, 0);
        x.advance(5);
    }

    /** Runs in every state, buses at both chargers, a bus that is broken, a driver who is ill. */
    private static void busy(Told x) {
        x.lead(0, 60);
        x.run(100, 10, 10);
        x.run(100, 20, 20);
        x.run(30, 30, 30);
        x.run(10, 10, 40);
        x.run(10, 10, 10);
        x.order(0, 0, 1, 4, 3);
        x.order(0, 1, 2, 0, 4);
        x.order(0, 2, 3, 2, 1);
        x.advance(40);
        x.plug(2, 0);
        x.plug(4, 1);
        x.breaks(3, true);
        x.ails(2, true);
    }

    private static void full(Told x) {
        x.lead(1, 1000);
        for (int run = 0; run < 29; run++) {
            x.run(200 + run, 10, 10);
        }
        x.run(5, 100, 10);
        x.order(1, 0, 28, 4, 4);
        x.order(1, 1, 29, 4, 4);
        x.advance(5);
        x.plug(0, 0);
    }

    private Real made() {
        Real real = new Real();
        state.accept(real);
        return real;
    }

    private static String shown(String call, int... arguments) {
        StringBuilder text = new StringBuilder(call);
        for (int argument : arguments) {
            text.append(' ').append(argument);
        }
        return text.toString();
    }

    private void same(String call, Function<Told, String> asked) {
        Model model = new Model();
        state.accept(model);
        String due = asked.apply(model);
        Real real = made();
        check.same(name + ", " + call, asked.apply(real), due);
        if (due.endsWith("Exception")) {
            check.same(name + ", " + call + ", what it leaves", Check.tale(real.depot), tale);
        } else {
            check.same(name + ", " + call + ", what there is then", seen(real), seen(model));
        }
    }

    private static String seen(Told x) {
        StringBuilder text = new StringBuilder(x.minute() + " " + x.leader() + " " + x.runs() + " " + x.orders());
        for (int run = 0; run < 30; run++) {
            text.append(' ').append(x.stateOf(run)).append('/').append(x.busOf(run)).append('/').append(x.driverOf(run));
        }
        for (int k = 0; k < 5; k++) {
            text.append(' ').append(x.charge(k)).append('/').append(x.promised(k)).append('/').append(x.minutesOf(k, 0));
            text.append('/').append(x.orderAt(k));
        }
        return text.toString();
    }

    private void calls() {
        int[] starts = {LEAST, -1, 0, 1, 5, 6, 40, 41, 841, 1439, 1440, 20000, 20001, 30001, MOST - 1, MOST};
        int[] fives = {LEAST, -1, 0, 1, 2, 3, 4, 5, MOST};
        int[] minutes = {LEAST, -1, 0, 1, 160, 161, 600, 601, 1000, 1001, MOST};
        for (int start : starts) {
            for (int length : minutes) {
                for (int charge : new int[] {LEAST, -1, 0, 100, 101, MOST}) {
                    same(shown("run", start, length, charge), x -> x.run(start, length, charge));
                }
            }
        }
        for (int n : fives) {
            for (int length : minutes) {
                same(shown("lead", n, length), x -> x.lead(n, length));
            }
            for (int charger : fives) {
                same(shown("plug", n, charger), x -> x.plug(n, charger));
            }
            same(shown("breaks", n), x -> x.breaks(n, true));
            same(shown("is whole", n), x -> x.breaks(n, false));
            same(shown("ails", n), x -> x.ails(n, true));
            same(shown("is well", n), x -> x.ails(n, false));
        }
        for (int length : minutes) {
            same(shown("advance", length), x -> x.advance(length));
        }
    }

    private void orders() {
        // The ends of int stand in CallBoundsTest: here they would only make the test long.
        int[] fives = {-1, 0, 4, 5};
        for (int dispatcher : new int[] {-1, 0, 1, 2}) {
            for (int mark : new int[] {-1, 0, 998, 999, 1000}) {
                for (int run : new int[] {-1, 0, 1, 2, 5, 29, 30}) {
                    for (int bus : fives) {
                        for (int driver : fives) {
                            same(shown("order", dispatcher, mark, run, bus, driver),
                                x -> x.order(dispatcher, mark, run, bus, driver));
                        }
                    }
                }
            }
        }
    }

    private void questions() {
        for (int n : new int[] {LEAST, -1, 0, 1, 2, 3, 4, 5, 28, 29, 30, 1 << 30, MOST}) {
            same(shown("orderAt", n), x -> x.orderAt(n));
            same(shown("stateOf", n), x -> x.stateOf(n));
            same(shown("busOf", n), x -> x.busOf(n));
            same(shown("driverOf", n), x -> x.driverOf(n));
            same(shown("charge", n), x -> x.charge(n));
            same(shown("promised", n), x -> x.promised(n));
            for (int day : new int[] {LEAST, -1, 0, 1, 13, 1 << 27, MOST}) {
                same(shown("minutesOf", n, day), x -> x.minutesOf(n, day));
            }
        }
    }
}
