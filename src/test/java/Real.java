/** The program's own answers as texts. */
final class Real implements Told {
    final DepotLog depot = new DepotLog();

    @Override
    public String run(int start, int minutes, int charge) {
        return Check.answerOf(() -> depot.run(start, minutes, charge));
    }

    @Override
    public String lead(int dispatcher, int minutes) {
        return Check.answerOf(() -> depot.lead(dispatcher, minutes));
    }

    @Override
    public String order(int dispatcher, int mark, int run, int bus, int driver) {
        return Check.answerOf(() -> depot.order(dispatcher, mark, run, bus, driver));
    }

    @Override
    public String breaks(int bus, boolean isBroken) {
        return Check.answerOf(() -> depot.breaks(bus, isBroken));
    }

    @Override
    public String ails(int driver, boolean isIll) {
        return Check.answerOf(() -> depot.ails(driver, isIll));
    }

    @Override
    public String plug(int bus, int charger) {
        return Check.answerOf(() -> depot.plug(bus, charger));
    }

    @Override
    public String advance(int minutes) {
        return Check.answerOf(() -> depot.advance(minutes));
    }

    @Override
    public String minute() {
        return Check.answerOf(() -> depot.minute());
    }

    @Override
    public String leader() {
        return Check.answerOf(() -> depot.leader());
    }

    @Override
    public String runs() {
        return Check.answerOf(() -> depot.runs());
    }

    @Override
    public String orders() {
        return Check.answerOf(() -> depot.orders());
    }

    @Override
    public String orderAt(int order) {
        return Check.answerOf(() -> depot.orderAt(order));
    }

    @Override
    public String stateOf(int run) {
        return Check.answerOf(() -> depot.stateOf(run));
    }

    @Override
    public String busOf(int run) {
        return Check.answerOf(() -> depot.busOf(run));
    }

    @Override
    public String driverOf(int run) {
        return Check.answerOf(() -> depot.driverOf(run));
    }

    @Override
    public String charge(int bus) {
        return Check.answerOf(() -> depot.charge(bus));
    }

    @Override
    public String promised(int bus) {
        return Check.answerOf(() -> depot.promised(bus));
    }

    @Override
    public String minutesOf(int driver, int day) {
        return Check.answerOf(() -> depot.minutesOf(driver, day));
    }
}
