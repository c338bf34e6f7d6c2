/** A bus depot with two dispatchers, of whom one leads by a lease. The calls are told in DOC.md. */
public final class DepotLog {
    public static final int NONE = -1;
    public static final int WAITS = 0, ORDERED = 1, GOES = 2, DONE = 3, LOST = 4;

    private static final int BUSES = 5;
    private static final int DRIVERS = 5;
    private static final int CHARGERS = 2;
    private static final int DISPATCHERS = 2;
    private static final int MOST_RUNS = 30;
    private static final int MARKS = 1000;
    private static final int FULL_CHARGE = 100;
    private static final int DAY = 1440;
    private static final int LAST_START = 20000;
    private static final int LAST_MINUTE = 30000;
    private static final int LONGEST_RUN = 600;
    private static final int LONGEST_LEASE = 1000;
    private static final int LONGEST_ADVANCE = 1000;
    private static final int MOST_MINUTES_A_DAY = 480;
    private static final int REST = 30;

    /** A run; a run that WAITS or is LOST has neither bus nor driver, so that it counts for none. */
    private static final class Run {
        int start;
        int end;
        int need;
        int state = WAITS;
        int bus = NONE;
        int driver = NONE;

        void tell(int firstMinute, int minutes, int neededCharge) {
            start = firstMinute;
            end = firstMinute + minutes;
            need = neededCharge;
        }

        void give(int toBus, int toDriver) {
            state = ORDERED;
            bus = toBus;
            driver = toDriver;
        }

        void drop(int toState) {
            state = toState;
            bus = NONE;
            driver = NONE;
        }

        boolean holds(int askedBus) {
            return bus == askedBus && (state == ORDERED || state == GOES);
        }

        boolean isWorkOf(int askedDriver, int day) {
            return driver == askedDriver && startDay() == day;
        }

        boolean meets(Run other) {
            return start < other.end && other.start < end;
        }

        boolean isRestedFrom(Run other) {
            return end + REST <= other.start || other.end + REST <= start;
        }

        int startDay() {
            return start / DAY;
        }

        int length() {
            return end - start;
        }
    }

    private final Run[] rows = new Run[MOST_RUNS];
    private final int[] charges = new int[BUSES];
    private final boolean[] broken = new boolean[BUSES];
    private final boolean[] ill = new boolean[DRIVERS];
    private final int[] busAtCharger = new int[CHARGERS];
    // A mark stands in the log at most once, so a place for each mark holds every order.
    private final int[] log = new int[MARKS];
    private final int[] numberOfMark = new int[MARKS];
    private int minute = 0;
    private int runCount = 0;
    private int orderCount = 0;
    private int holder = NONE;
    private int leaseEnd = 0;

    public DepotLog() {
        for (int k = 0; k < MOST_RUNS; k++) {
            rows[k] = new Run();
        }
        for (int bus = 0; bus < BUSES; bus++) {
            charges[bus] = FULL_CHARGE;
        }
        for (int charger = 0; charger < CHARGERS; charger++) {
            busAtCharger[charger] = NONE;
        }
        for (int mark = 0; mark < MARKS; mark++) {
            numberOfMark[mark] = NONE;
        }
    }

    // ---- runs, leases, orders

    public int run(int start, int minutes, int charge) throws IllegalArgumentException, IllegalStateException {
        requireRange(start, minute + 1, LAST_START);
        requireRange(minutes, 1, LONGEST_RUN);
        requireRange(start % DAY + minutes, 1, DAY);
        requireRange(charge, 0, FULL_CHARGE);
        if (runCount >= MOST_RUNS) {
            throw new IllegalStateException("there are 30 runs");
        }
        int number = runCount;
        rows[number].tell(start, minutes, charge);
        runCount++;
        return number;
    }

    public boolean lead(int dispatcher, int minutes) throws IndexOutOfBoundsException, IllegalArgumentException {
        requireIndex(dispatcher, DISPATCHERS);
        requireRange(minutes, 1, LONGEST_LEASE);
        int now = leader();
        if (now != NONE && now != dispatcher) {
            return false;
        }
        holder = dispatcher;
        leaseEnd = minute + minutes;
        return true;
    }

    public int order(int dispatcher, int mark, int run, int bus, int driver)
            throws IndexOutOfBoundsException, IllegalArgumentException, IllegalStateException {
        requireIndex(dispatcher, DISPATCHERS);
        requireIndex(run, runCount);
        requireIndex(bus, BUSES);
        requireIndex(driver, DRIVERS);
        requireRange(mark, 0, MARKS - 1);
        if (numberOfMark[mark] != NONE) {
            return numberOfMark[mark];
        }
        if (leader() != dispatcher || !canBeOrdered(rows[run], bus, driver)) {
            throw new IllegalStateException("the run can't be ordered so");
        }
        rows[run].give(bus, driver);
        return write(mark, 100 * run + 10 * bus + driver);
    }

    // ---- buses and drivers

    public boolean breaks(int bus, boolean isBroken) throws IndexOutOfBoundsException {
        requireIndex(bus, BUSES);
        boolean was = broken[bus];
        broken[bus] = isBroken;
        if (isBroken) {
            unplug(bus);
            takeOrdersFromBus(bus);
            swapBus(bus);
        }
        return was;
    }

    public boolean ails(int driver, boolean isIll) throws IndexOutOfBoundsException {
        requireIndex(driver, DRIVERS);
        boolean was = ill[driver];
        ill[driver] = isIll;
        if (isIll) {
            takeOrdersFromDriver(driver);
            swapDriver(driver);
        }
        return was;
    }

    public int plug(int bus, int charger) throws IndexOutOfBoundsException, IllegalStateException {
        requireIndex(bus, BUSES);
        requireIndex(charger, CHARGERS);
        if (isUnderWay(bus)) {
            throw new IllegalStateException("the bus has a run that goes");
        }
        // Unplugged first, the bus itself never counts as the one that leaves.
        unplug(bus);
        int leaving = busAtCharger[charger];
        busAtCharger[charger] = bus;
        return leaving;
    }

    public int advance(int minutes) throws IllegalArgumentException, IllegalStateException {
        requireRange(minutes, 1, LONGEST_ADVANCE);
        if (minute + minutes > LAST_MINUTE) {
            throw new IllegalStateException("the minute would be above 30000");
        }
        for (int k = 0; k < minutes; k++) {
            passMinute();
        }
        return minute;
    }

    // ---- what there is

    public int minute() {
        return minute;
    }

    public int leader() {
        return minute < leaseEnd ? holder : NONE;
    }

    public int runs() {
        return runCount;
    }

    public int orders() {
        return orderCount;
    }

    public int orderAt(int order) throws IndexOutOfBoundsException {
        requireIndex(order, orderCount);
        return log[order];
    }

    public int stateOf(int run) throws IndexOutOfBoundsException {
        requireIndex(run, runCount);
        return rows[run].state;
    }

    public int busOf(int run) throws IndexOutOfBoundsException {
        requireIndex(run, runCount);
        return rows[run].bus;
    }

    public int driverOf(int run) throws IndexOutOfBoundsException {
        requireIndex(run, runCount);
        return rows[run].driver;
    }

    public int charge(int bus) throws IndexOutOfBoundsException {
        requireIndex(bus, BUSES);
        return charges[bus];
    }

    public int promised(int bus) throws IndexOutOfBoundsException {
        requireIndex(bus, BUSES);
        return promisedCharge(bus);
    }

    public int minutesOf(int driver, int day) throws IndexOutOfBoundsException {
        requireIndex(driver, DRIVERS);
        return workedMinutes(driver, day);
    }

    // ---- what is asked of arguments

    private static void requireIndex(int index, int count) {
        if (index < 0 || index >= count) {
            throw new IndexOutOfBoundsException("there is no such number");
        }
    }

    private static void requireRange(int value, int least, int most) {
        if (value < least || value > most) {
            throw new IllegalArgumentException("an argument is out of range");
        }
    }

    // ---- the log

    private int write(int mark, int entry) {
        int number = orderCount;
        if (number < MARKS) {
            log[number] = entry;
            numberOfMark[mark] = number;
            orderCount++;
        }
        return number;
    }

    // ---- what is fit

    private boolean canBeOrdered(Run run, int bus, int driver) {
        return run.state == WAITS && run.start > minute && isBusFit(bus, run) && isDriverFit(driver, run);
    }

    private boolean isBusFit(int bus, Run run) {
        if (broken[bus] || charges[bus] - promisedCharge(bus) < run.need) {
            return false;
        }
        for (int k = 0; k < runCount; k++) {
            if (rows[k].holds(bus) && rows[k].meets(run)) {
                return false;
            }
        }
        return true;
    }

    private boolean isDriverFit(int driver, Run run) {
        int day = run.startDay();
        if (ill[driver] || workedMinutes(driver, day) + run.length() > MOST_MINUTES_A_DAY) {
            return false;
        }
        for (int k = 0; k < runCount; k++) {
            if (rows[k].isWorkOf(driver, day) && !rows[k].isRestedFrom(run)) {
                return false;
            }
        }
        return true;
    }

    private int lowestFitBus(Run run) {
        for (int bus = 0; bus < BUSES; bus++) {
            if (isBusFit(bus, run)) {
                return bus;
            }
        }
        return NONE;
    }

    private int lowestFitDriver(Run run) {
        for (int driver = 0; driver < DRIVERS; driver++) {
            if (isDriverFit(driver, run)) {
                return driver;
            }
        }
        return NONE;
    }

    private int promisedCharge(int bus) {
        int sum = 0;
        for (int k = 0; k < runCount; k++) {
            if (rows[k].bus == bus && rows[k].state == ORDERED) {
                sum += rows[k].need;
            }
        }
        return sum;
    }

    private int workedMinutes(int driver, int day) {
        int sum = 0;
        for (int k = 0; k < runCount; k++) {
            if (rows[k].isWorkOf(driver, day)) {
                sum += rows[k].length();
            }
        }
        return sum;
    }

    // ---- breakdowns

    private void takeOrdersFromBus(int bus) {
        for (int k = 0; k < runCount; k++) {
            if (rows[k].state == ORDERED && rows[k].bus == bus) {
                rows[k].drop(WAITS);
            }
        }
    }

    private void takeOrdersFromDriver(int driver) {
        for (int k = 0; k < runCount; k++) {
            if (rows[k].state == ORDERED && rows[k].driver == driver) {
                rows[k].drop(WAITS);
            }
        }
    }

    private void swapBus(int bus) {
        for (int k = 0; k < runCount; k++) {
            if (rows[k].state == GOES && rows[k].bus == bus) {
                giveOtherBus(rows[k]);
            }
        }
    }

    private void giveOtherBus(Run run) {
        // Without a bus the run doesn't count against itself when it is asked what is fit.
        run.bus = NONE;
        int other = lowestFitBus(run);
        if (other == NONE) {
            run.drop(LOST);
        } else {
            run.bus = other;
            sendOut(other, run.need);
        }
    }

    private void swapDriver(int driver) {
        for (int k = 0; k < runCount; k++) {
            if (rows[k].state == GOES && rows[k].driver == driver) {
                giveOtherDriver(rows[k]);
            }
        }
    }

    private void giveOtherDriver(Run run) {
        // Without a driver the run doesn't count against itself when it is asked what is fit.
        run.driver = NONE;
        int other = lowestFitDriver(run);
        if (other == NONE) {
            run.drop(LOST);
        } else {
            run.driver = other;
        }
    }

    // ---- chargers

    private boolean isUnderWay(int bus) {
        for (int k = 0; k < runCount; k++) {
            if (rows[k].state == GOES && rows[k].bus == bus) {
                return true;
            }
        }
        return false;
    }

    private void unplug(int bus) {
        for (int charger = 0; charger < CHARGERS; charger++) {
            if (busAtCharger[charger] == bus) {
                busAtCharger[charger] = NONE;
            }
        }
    }

    private void sendOut(int bus, int need) {
        if (bus >= 0 && bus < BUSES) {
            charges[bus] -= need;
            unplug(bus);
        }
    }

    // ---- minutes

    private void passMinute() {
        loadAtChargers();
        minute++;
        endRuns();
        startRuns();
    }

    private void loadAtChargers() {
        for (int charger = 0; charger < CHARGERS; charger++) {
            int bus = busAtCharger[charger];
            if (bus >= 0 && bus < BUSES && charges[bus] < FULL_CHARGE) {
                charges[bus]++;
            }
        }
    }

    private void endRuns() {
        for (int k = 0; k < runCount; k++) {
            if (rows[k].state == GOES && rows[k].end == minute) {
                rows[k].state = DONE;
            }
        }
    }

    private void startRuns() {
        for (int k = 0; k < runCount; k++) {
            if (rows[k].start == minute) {
                startRun(rows[k]);
            }
        }
    }

    private void startRun(Run run) {
        if (run.state == ORDERED) {
            run.state = GOES;
            sendOut(run.bus, run.need);
        } else if (run.state == WAITS) {
            run.drop(LOST);
        }
    }
}
