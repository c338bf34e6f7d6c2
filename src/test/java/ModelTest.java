import java.util.function.Supplier;

/** Long mixed runs of at most 512 calls, each answer beside the model's; the same runs every time. */
public final class ModelTest {
    private static final int OBJECTS = 3000;
    private static final int CALLS = 512;
    private static final int[] STRANGE = {-1, Integer.MIN_VALUE, Integer.MAX_VALUE, 5, 30, 1000};

    private final Check check;
    private final DepotLog real = new DepotLog();
    private final Model model = new Model();
    private final StringBuilder told = new StringBuilder();
    private final boolean isHasty;
    private long seed;
    private int calls = 0;
    private boolean isWrong = false;

    private ModelTest(Check check, long seed) {
        this.check = check;
        this.seed = seed * 7919 + 17;
        this.isHasty = seed % 3 == 0;
    }

    public static void main(String[] args) {
        Check check = new Check();
        for (int k = 0; k < OBJECTS; k++) {
            new ModelTest(check, k).play();
        }
        check.end();
    }

    private int pick(int bound) {
        seed = seed * 6364136223846793005L + 1442695040888963407L;
        return (int) ((seed >>> 33) % bound);
    }

    private int number(int bound) {
        return pick(60) == 0 ? STRANGE[pick(STRANGE.length)] : pick(bound);
    }

    /** Only here is the real object called, so that its calls are counted. */
    private void ask(String call, Supplier<Object> asked, String due) {
        if (calls >= CALLS || isWrong) {
            return;
        }
        calls++;
        told.append(call).append("; ");
        Object[] got = new Object[1];
        String thrown = Check.thrownBy(() -> got[0] = asked.get());
        String answer = thrown.isEmpty() ? String.valueOf(got[0]) : thrown;
        isWrong = !answer.equals(due);
        check.same(isWrong ? told.toString() : call, answer, due);
    }

    private void play() {
        while (calls < CALLS && !isWrong) {
            int kind = pick(100);
            if (kind < 12) {
                askRun();
            } else if (kind < 18) {
                askLead();
            } else if (kind < 55) {
                askOrder();
            } else if (kind < 61) {
                askBreaks(number(5), pick(3) == 0);
            } else if (kind < 67) {
                askAils(number(5), pick(3) == 0);
            } else if (kind < 74) {
                askPlug(number(5), number(2));
            } else if (kind < 86) {
                askAdvance(isHasty && pick(4) == 0 ? number(1100) : 1 + number(25));
            } else {
                askWhatThereIs();
            }
        }
    }

    private void askRun() {
        int minute = Integer.parseInt(model.minute());
        int start = pick(30) == 0 ? number(20100) : minute + pick(isHasty ? 600 : 150);
        int minutes = pick(10) == 0 ? number(640) : 1 + pick(isHasty ? 200 : 60);
        int charge = pick(10) == 0 ? number(102) : pick(45);
        ask("run(" + start + ", " + minutes + ", " + charge + ")",
            () -> real.run(start, minutes, charge), isOver() ? "" : model.run(start, minutes, charge));
    }

    private void askLead() {
        int dispatcher = number(2);
        int minutes = pick(8) == 0 ? number(1002) : 1 + pick(80);
        ask("lead(" + dispatcher + ", " + minutes + ")",
            () -> real.lead(dispatcher, minutes), isOver() ? "" : model.lead(dispatcher, minutes));
    }

    private void askOrder() {
        int leader = Integer.parseInt(model.leader());
        int dispatcher = leader == DepotLog.NONE || pick(12) == 0 ? number(2) : leader;
        int mark = pick(5) == 0 ? number(1001) : pick(1000);
        int run = pick(40) == 0 ? number(31) : waitingRun();
        int bus = number(5);
        int driver = number(5);
        ask("order(" + dispatcher + ", " + mark + ", " + run + ", " + bus + ", " + driver + ")",
            () -> real.order(dispatcher, mark, run, bus, driver),
            isOver() ? "" : model.order(dispatcher, mark, run, bus, driver));
        askAboutRun(run);
    }

    private int waitingRun() {
        int runs = Integer.parseInt(model.runs());
        for (int tries = 0; tries < 6 && runs > 0; tries++) {
            int run = pick(runs);
            if (model.stateOf(run).equals("0")) {
                return run;
            }
        }
        return number(Math.max(1, runs));
    }

    private void askBreaks(int bus, boolean isBroken) {
        ask("breaks(" + bus + ", " + isBroken + ")", () -> real.breaks(bus, isBroken),
            isOver() ? "" : model.breaks(bus, isBroken));
        askAboutRun(pick(30));
    }

    private void askAils(int driver, boolean isIll) {
        ask("ails(" + driver + ", " + isIll + ")", () -> real.ails(driver, isIll),
            isOver() ? "" : model.ails(driver, isIll));
        askAboutRun(pick(30));
    }

    private void askPlug(int bus, int charger) {
        ask("plug(" + bus + ", " + charger + ")", () -> real.plug(bus, charger), isOver() ? "" : model.plug(bus, charger));
    }

    private void askAdvance(int minutes) {
        ask("advance(" + minutes + ")", () -> real.advance(minutes), isOver() ? "" : model.advance(minutes));
    }

    private boolean isOver() {
        return calls >= CALLS || isWrong;
    }

    private void askAboutRun(int run) {
        if (pick(3) == 0) {
            ask("stateOf(" + run + ")", () -> real.stateOf(run), model.stateOf(run));
            ask("busOf(" + run + ")", () -> real.busOf(run), model.busOf(run));
            ask("driverOf(" + run + ")", () -> real.driverOf(run), model.driverOf(run));
        }
    }

    private void askWhatThereIs() {
        int n = number(5);
        int run = number(30);
        int order = number(60);
        int day = pick(3) == 0 ? number(16) : Integer.parseInt(model.minute()) / 1440;
        switch (pick(9)) {
            case 0: ask("minute()", () -> real.minute(), model.minute()); break;
            case 1: ask("leader()", () -> real.leader(), model.leader()); break;
            case 2: ask("runs()", () -> real.runs(), model.runs()); break;
            case 3: ask("orders()", () -> real.orders(), model.orders()); break;
            case 4: ask("orderAt(" + order + ")", () -> real.orderAt(order), model.orderAt(order)); break;
            case 5: askAboutRun(run); break;
            case 6: ask("charge(" + n + ")", () -> real.charge(n), model.charge(n)); break;
            case 7: ask("promised(" + n + ")", () -> real.promised(n), model.promised(n)); break;
            default: ask("minutesOf(" + n + ", " + day + ")", () -> real.minutesOf(n, day), model.minutesOf(n, day));
        }
    }
}
