import java.util.ArrayList;
import java.util.HashSet;
import java.util.LinkedHashMap;
import java.util.List;
import java.util.Map;
import java.util.Set;
import java.util.stream.Collectors;
import java.util.stream.IntStream;

/**
 * The document said once more, in another way than the program: sets and filters, nothing kept that can be reckoned.
 * Refusals are told by their exception's name.
 */
final class Model implements Told {
    static final class Trip {
        final int start, end, need;
        String state = "WAITS";
        Integer bus = null, driver = null;

        Trip(int start, int end, int need) {
            this.start = start;
            this.end = end;
            this.need = need;
        }

        boolean is(String... states) {
            return List.of(states).contains(state);
        }

        void free(String then) {
            state = then;
            bus = null;
            driver = null;
        }
    }

    private static final List<String> STATES = List.of("WAITS", "ORDERED", "GOES", "DONE", "LOST");
    private static final String INDEX = "IndexOutOfBoundsException";
    private static final String ARGUMENT = "IllegalArgumentException";
    private static final String STATE = "IllegalStateException";

    private final List<Trip> trips = new ArrayList<>();
    private final Map<Integer, Integer> log = new LinkedHashMap<>();
    private final int[] energy = {100, 100, 100, 100, 100};
    private final Set<Integer> brokenBuses = new HashSet<>();
    private final Set<Integer> illDrivers = new HashSet<>();
    private final Map<Integer, Integer> chargerOfBus = new LinkedHashMap<>();
    private int now = 0;
    private Integer lessee = null;
    private int leaseUntil = 0;

    private static boolean within(int n, int from, int to) {
        return n >= from && n <= to;
    }

    @Override
    public String run(int start, int minutes, int charge) {
        if (!within(start, now + 1, 20000) || !within(minutes, 1, 600) || !within(charge, 0, 100)) {
            return ARGUMENT;
        }
        if (start + minutes > (start / 1440 + 1) * 1440) {
            return ARGUMENT;
        }
        if (trips.size() == 30) {
            return STATE;
        }
        trips.add(new Trip(start, start + minutes, charge));
        return "" + (trips.size() - 1);
    }

    private Integer whoLeads() {
        return lessee != null && now < leaseUntil ? lessee : null;
    }

    @Override
    public String lead(int dispatcher, int minutes) {
        if (!within(dispatcher, 0, 1)) {
            return INDEX;
        }
        if (!within(minutes, 1, 1000)) {
            return ARGUMENT;
        }
        if (whoLeads() == null || whoLeads() == dispatcher) {
            lessee = dispatcher;
            leaseUntil = now + minutes;
        }
        return "" + (whoLeads() == dispatcher);
    }

    @Override
    public String order(int dispatcher, int mark, int run, int bus, int driver) {
        if (!within(dispatcher, 0, 1) || !within(run, 0, trips.size() - 1) || !within(bus, 0, 4) || !within(driver, 0, 4)) {
            return INDEX;
        }
        if (!within(mark, 0, 999)) {
            return ARGUMENT;
        }
        if (!log.containsKey(mark)) {
            Trip trip = trips.get(run);
            boolean leads = whoLeads() != null && whoLeads() == dispatcher;
            if (!leads || !trip.is("WAITS") || trip.start <= now || !busFits(bus, trip) || !driverFits(driver, trip)) {
                return STATE;
            }
            trip.state = "ORDERED";
            trip.bus = bus;
            trip.driver = driver;
            log.put(mark, 100 * run + 10 * bus + driver);
        }
        return "" + new ArrayList<>(log.keySet()).indexOf(mark);
    }

    private List<Trip> ofBus(int bus, String... states) {
        return trips.stream().filter(t -> t.bus != null && t.bus == bus && t.is(states)).collect(Collectors.toList());
    }

    private List<Trip> ofDriver(int driver, String... states) {
        return trips.stream().filter(t -> t.driver != null && t.driver == driver && t.is(states)).collect(Collectors.toList());
    }

    private boolean busFits(int bus, Trip trip) {
        Set<Integer> minutes = IntStream.range(trip.start, trip.end).boxed().collect(Collectors.toSet());
        boolean meets = ofBus(bus, "ORDERED", "GOES").stream().filter(t -> t != trip)
            .anyMatch(t -> IntStream.range(t.start, t.end).anyMatch(minutes::contains));
        return !brokenBuses.contains(bus) && !meets && energy[bus] - promisedOf(bus) >= trip.need;
    }

    private int promisedOf(int bus) {
        return ofBus(bus, "ORDERED").stream().mapToInt(t -> t.need).sum();
    }

    private boolean driverFits(int driver, Trip trip) {
        List<Trip> work = ofDriver(driver, "ORDERED", "GOES", "DONE").stream()
            .filter(t -> t != trip && t.start / 1440 == trip.start / 1440).collect(Collectors.toList());
        int sum = work.stream().mapToInt(t -> t.end - t.start).sum() + trip.end - trip.start;
        boolean rested = work.stream().allMatch(t -> t.start - trip.end >= 30 || trip.start - t.end >= 30);
        return !illDrivers.contains(driver) && sum <= 480 && rested;
    }

    @Override
    public String breaks(int bus, boolean isBroken) {
        if (!within(bus, 0, 4)) {
            return INDEX;
        }
        boolean was = brokenBuses.contains(bus);
        if (!isBroken) {
            brokenBuses.remove(bus);
            return "" + was;
        }
        brokenBuses.add(bus);
        chargerOfBus.remove(bus);
        ofBus(bus, "ORDERED").forEach(t -> t.free("WAITS"));
        for (Trip trip : ofBus(bus, "GOES")) {
            var other = IntStream.range(0, 5).filter(b -> busFits(b, trip)).findFirst();
            if (other.isEmpty()) {
                trip.free("LOST");
            } else {
                trip.bus = other.getAsInt();
                energy[trip.bus] -= trip.need;
                chargerOfBus.remove(trip.bus);
            }
        }
        return "" + was;
    }

    @Override
    public String ails(int driver, boolean isIll) {
        if (!within(driver, 0, 4)) {
            return INDEX;
        }
        boolean was = illDrivers.contains(driver);
        if (!isIll) {
            illDrivers.remove(driver);
            return "" + was;
        }
        illDrivers.add(driver);
        ofDriver(driver, "ORDERED").forEach(t -> t.free("WAITS"));
        for (Trip trip : ofDriver(driver, "GOES")) {
            var other = IntStream.range(0, 5).filter(d -> driverFits(d, trip)).findFirst();
            if (other.isEmpty()) {
                trip.free("LOST");
            } else {
                trip.driver = other.getAsInt();
            }
        }
        return "" + was;
    }

    @Override
    public String plug(int bus, int charger) {
        if (!within(bus, 0, 4) || !within(charger, 0, 1)) {
            return INDEX;
        }
        if (!ofBus(bus, "GOES").isEmpty()) {
            return STATE;
        }
        int leaves = IntStream.range(0, 5)
            .filter(b -> b != bus && chargerOfBus.containsKey(b) && chargerOfBus.get(b) == charger).findFirst().orElse(-1);
        chargerOfBus.remove(leaves);
        chargerOfBus.put(bus, charger);
        return "" + leaves;
    }

    @Override
    public String advance(int minutes) {
        if (!within(minutes, 1, 1000)) {
            return ARGUMENT;
        }
        if (now + minutes > 30000) {
            return STATE;
        }
        int until = now + minutes;
        while (now < until) {
            chargerOfBus.keySet().forEach(bus -> energy[bus] = Math.min(100, energy[bus] + 1));
            now++;
            trips.stream().filter(t -> t.is("GOES") && t.end == now).forEach(t -> t.state = "DONE");
            for (Trip trip : trips) {
                if (trip.start == now && trip.is("ORDERED")) {
                    trip.state = "GOES";
                    energy[trip.bus] -= trip.need;
                    chargerOfBus.remove(trip.bus);
                }
            }
            trips.stream().filter(t -> t.is("WAITS") && t.start == now).forEach(t -> t.free("LOST"));
        }
        return "" + now;
    }

    @Override
    public String minute() {
        return "" + now;
    }

    @Override
    public String leader() {
        return "" + (whoLeads() == null ? -1 : whoLeads());
    }

    @Override
    public String runs() {
        return "" + trips.size();
    }

    @Override
    public String orders() {
        return "" + log.size();
    }

    @Override
    public String orderAt(int order) {
        return within(order, 0, log.size() - 1) ? "" + new ArrayList<>(log.values()).get(order) : INDEX;
    }

    @Override
    public String stateOf(int run) {
        return within(run, 0, trips.size() - 1) ? "" + STATES.indexOf(trips.get(run).state) : INDEX;
    }

    @Override
    public String busOf(int run) {
        return within(run, 0, trips.size() - 1) ? "" + (trips.get(run).bus == null ? -1 : trips.get(run).bus) : INDEX;
    }

    @Override
    public String driverOf(int run) {
        return within(run, 0, trips.size() - 1) ? "" + (trips.get(run).driver == null ? -1 : trips.get(run).driver) : INDEX;
    }

    @Override
    public String charge(int bus) {
        return within(bus, 0, 4) ? "" + energy[bus] : INDEX;
    }

    @Override
    public String promised(int bus) {
        return within(bus, 0, 4) ? "" + promisedOf(bus) : INDEX;
    }

    @Override
    public String minutesOf(int driver, int day) {
        if (!within(driver, 0, 4)) {
            return INDEX;
        }
        return "" + ofDriver(driver, "ORDERED", "GOES", "DONE").stream().filter(t -> Math.floorDiv(t.start, 1440) == day)
            .mapToInt(t -> t.end - t.start).sum();
    }
}
