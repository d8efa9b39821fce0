import java.util.ArrayList;

/** A bench for the location of earthquakes. */
public final class QuakeBench {
    private static final int MOST_STATIONS = 10;
    private static final int MOST_PICKS = 80;
    private static final int MOST_EVENTS = 12;
    private static final int NONE = -1;

    private static final int GREATEST_X = 200;
    private static final int GREATEST_Y = 200;
    private static final int GREATEST_Z = 60;
    private static final int LATEST = 10000000;
    private static final int GREATEST_DELAY = 2000;
    private static final int GREATEST_WEIGHT = 4;
    private static final int GREATEST_AMPLITUDE = 1000000000;
    private static final int GREATEST_NEAR = 500;

    private static final int FIRST_SPEED = 6000;
    private static final int FIRST_RATIO = 173;

    private static final int LEAST_STATIONS = 3;
    private static final int LEAST_COMPANIONS = 3;
    private static final int JOINING_LIMIT = 1500;
    private static final int COMPANY_LIMIT = 40000;
    private static final int FULL_CIRCLE = 4000;

    private final ArrayList<Station> stations;
    private final ArrayList<Pick> picks;
    private final ArrayList<Event> events;
    private final Waves waves;
    private final Row row;
    private final Search search;
    private final ArrayList<Pick> loose;
    private final ArrayList<Pick> companions;

    public QuakeBench() {
        stations = new ArrayList<>();
        picks = new ArrayList<>();
        events = new ArrayList<>();
        waves = new Waves();
        row = new Row();
        search = new Search(waves, row);
        loose = new ArrayList<>();
        companions = new ArrayList<>();
    }

    // ---- stations and waves

    public int addStation(int x, int y) throws IllegalArgumentException, IllegalStateException {
        if (!isPlace(x, y, 0)) {
            throw new IllegalArgumentException("x or y is outside");
        }
        if (stations.size() >= MOST_STATIONS) {
            throw new IllegalStateException("no more stations");
        }
        int number = stations.size();
        stations.add(new Station(number, x, y));
        return number;
    }

    public int setDelay(int station, int delay) throws IndexOutOfBoundsException, IllegalArgumentException {
        Station site = stationAt(station);
        if (delay < -GREATEST_DELAY || delay > GREATEST_DELAY) {
            throw new IllegalArgumentException("delay is outside");
        }
        int before = site.delay;
        site.delay = delay;
        for (int k = 0; k < events.size(); k++) {
            Event quake = events.get(k);
            if (quake.hears(site)) {
                quake.found = false;
            }
        }
        return before;
    }

    public int setSpeeds(int v, int r) throws IllegalArgumentException {
        if (v < 3000 || v > 9000) {
            throw new IllegalArgumentException("v is outside");
        }
        if (r < 150 || r > 200) {
            throw new IllegalArgumentException("r is outside");
        }
        waves.speedOfP = v;
        waves.speedOfS = v * 100 / r;
        for (int k = 0; k < events.size(); k++) {
            events.get(k).found = false;
        }
        return waves.speedOfS;
    }

    public int way(int station, int x, int y, int z) throws IndexOutOfBoundsException, IllegalArgumentException {
        Station site = stationAt(station);
        requirePlace(x, y, z);
        return site.wayTo(x, y, z);
    }

    public int needs(int station, int x, int y, int z, boolean isS)
            throws IndexOutOfBoundsException, IllegalArgumentException {
        Station site = stationAt(station);
        requirePlace(x, y, z);
        return waves.travel(site, x, y, z, isS);
    }

    // ---- picks and events

    public int addPick(int station, boolean isS, int time)
            throws IndexOutOfBoundsException, IllegalArgumentException, IllegalStateException {
        Station site = stationAt(station);
        if (time < 0 || time > LATEST) {
            throw new IllegalArgumentException("time is outside");
        }
        if (picks.size() >= MOST_PICKS) {
            throw new IllegalStateException("no more picks");
        }
        int number = picks.size();
        picks.add(new Pick(number, site, isS, time));
        return number;
    }

    public int setWeight(int pick, int weight) throws IndexOutOfBoundsException, IllegalArgumentException {
        Pick arrival = pickAt(pick);
        if (weight < 1 || weight > GREATEST_WEIGHT) {
            throw new IllegalArgumentException("weight is outside");
        }
        int before = arrival.weight;
        arrival.weight = weight;
        if (arrival.event != null) {
            arrival.event.found = false;
        }
        return before;
    }

    public int pick(int pick, int what) throws IndexOutOfBoundsException {
        Pick arrival = pickAt(pick);
        switch (what) {
            case 0:
                return arrival.station.number;
            case 1:
                return arrival.isS ? 1 : 0;
            case 2:
                return arrival.time;
            case 3:
                return arrival.weight;
            case 4:
                return numberOf(arrival.event);
            default:
                throw new IndexOutOfBoundsException("what is not 0 to 4");
        }
    }

    public int addEvent() throws IllegalStateException {
        if (events.size() >= MOST_EVENTS) {
            throw new IllegalStateException("no more events");
        }
        return openEvent().number;
    }

    public int give(int pick, int event) throws IndexOutOfBoundsException, IllegalStateException {
        Pick arrival = pickAt(pick);
        Event to = event == NONE ? null : eventAt(event);
        if (to != null && to.hasAnotherLike(arrival)) {
            throw new IllegalStateException("the event has such a pick");
        }
        Event from = arrival.event;
        if (from != null) {
            from.drop(arrival);
            from.found = false;
        }
        if (to != null) {
            to.take(arrival);
            to.found = false;
        }
        return numberOf(from);
    }

    public int associate() {
        orderLoosePicks();
        int placed = 0;
        for (int k = 0; k < loose.size(); k++) {
            Pick arrival = loose.get(k);
            // An earlier pick may have taken this one as its companion.
            if (arrival.event != null) {
                continue;
            }
            Event host = hostFor(arrival);
            if (host != null) {
                host.take(arrival);
                placed++;
            } else if (!arrival.isS) {
                gatherCompanions(arrival, k + 1);
                if (companions.size() >= LEAST_COMPANIONS && events.size() < MOST_EVENTS) {
                    search.locate(openEventWithCompanions(arrival));
                    placed += 1 + companions.size();
                }
            }
        }
        return placed;
    }

    public int count(int what) throws IndexOutOfBoundsException {
        switch (what) {
            case 0:
                return stations.size();
            case 1:
                return picks.size();
            case 2:
                return events.size();
            case 3:
                return countFound();
            case 4:
                return countLoose();
            default:
                throw new IndexOutOfBoundsException("what is not 0 to 4");
        }
    }

    // ---- seeking

    public long seek(int event) throws IndexOutOfBoundsException, IllegalStateException {
        Event quake = eventAt(event);
        if (quake.countStations() < LEAST_STATIONS) {
            throw new IllegalStateException("picks of too few stations");
        }
        return search.locate(quake);
    }

    public int event(int event, int what) throws IndexOutOfBoundsException, IllegalStateException {
        Event quake = eventAt(event);
        if (what < 0 || what > 5) {
            throw new IndexOutOfBoundsException("what is not 0 to 5");
        }
        if (what <= 3) {
            requireFound(quake);
        }
        switch (what) {
            case 0:
                return quake.x;
            case 1:
                return quake.y;
            case 2:
                return quake.z;
            case 3:
                return quake.time;
            case 4:
                return quake.members.size();
            default:
                return quake.countStations();
        }
    }

    public long misfit(int event, int x, int y, int z) throws IndexOutOfBoundsException, IllegalArgumentException {
        Event quake = eventAt(event);
        requirePlace(x, y, z);
        search.fillWithStarts(quake, x, y, z);
        return row.distanceFrom(row.middle());
    }

    public int residual(int pick) throws IndexOutOfBoundsException, IllegalStateException {
        Pick arrival = pickAt(pick);
        Event quake = arrival.event;
        if (quake == null) {
            throw new IllegalStateException("the pick has no event");
        }
        requireFound(quake);
        return waves.lateness(arrival, quake);
    }

    public int worst(int event) throws IndexOutOfBoundsException, IllegalStateException {
        Event quake = eventAt(event);
        requireFound(quake);
        int worstNumber = NONE;
        int greatest = -1;
        for (int k = 0; k < quake.members.size(); k++) {
            Pick arrival = quake.members.get(k);
            int size = Math.abs(waves.lateness(arrival, quake));
            // Members stand in the order of their coming, not of their numbers.
            if (size > greatest || (size == greatest && arrival.number < worstNumber)) {
                greatest = size;
                worstNumber = arrival.number;
            }
        }
        return worstNumber;
    }

    public double spread(int event) throws IndexOutOfBoundsException, IllegalStateException {
        Event quake = eventAt(event);
        requireFound(quake);
        search.fillWithStarts(quake, quake.x, quake.y, quake.z);
        // A found event has picks; the test keeps NaN away by itself.
        return row.total > 0 ? (double) row.distanceFrom(quake.time) / row.total : 0.0;
    }

    public int gap(int event) throws IndexOutOfBoundsException, IllegalStateException {
        Event quake = eventAt(event);
        requireFound(quake);
        return gapOf(quake);
    }

    // ---- magnitudes and families

    public int setAmplitude(int pick, int amplitude) throws IndexOutOfBoundsException, IllegalArgumentException {
        Pick arrival = pickAt(pick);
        if (amplitude < 1 || amplitude > GREATEST_AMPLITUDE) {
            throw new IllegalArgumentException("amplitude is outside");
        }
        int before = arrival.amplitude;
        arrival.amplitude = amplitude;
        return before;
    }

    public int magnitude(int event) throws IndexOutOfBoundsException, IllegalStateException {
        Event quake = eventAt(event);
        requireFound(quake);
        return magnitudeOf(quake);
    }

    public int families(int near, int soon) throws IllegalArgumentException {
        requireLimits(near, soon);
        labelFamilies(near, soon);
        int families = 0;
        for (int k = 0; k < events.size(); k++) {
            Event quake = events.get(k);
            // The label of a family is the least number in it, so each has one such event.
            if (quake.found && quake.label == quake.number) {
                families++;
            }
        }
        return families;
    }

    public int family(int event, int near, int soon)
            throws IndexOutOfBoundsException, IllegalArgumentException, IllegalStateException {
        Event quake = eventAt(event);
        requireLimits(near, soon);
        requireFound(quake);
        labelFamilies(near, soon);
        int size = 0;
        for (int k = 0; k < events.size(); k++) {
            Event other = events.get(k);
            if (other.found && other.label == quake.label) {
                size++;
            }
        }
        return size;
    }

    public int nearest(int x, int y, int z) throws IllegalArgumentException {
        requirePlace(x, y, z);
        int nearestNumber = NONE;
        int least = 0;
        for (int k = 0; k < events.size(); k++) {
            Event quake = events.get(k);
            if (quake.found) {
                int distance = quake.distanceTo(x, y, z);
                if (nearestNumber == NONE || distance < least) {
                    nearestNumber = quake.number;
                    least = distance;
                }
            }
        }
        return nearestNumber;
    }

    public long digest() {
        long d = 337;
        d = d * 31 + stations.size();
        d = d * 31 + picks.size();
        d = d * 31 + events.size();
        d = d * 31 + countFound();
        d = d * 31 + countLoose();
        d = d * 31 + waves.speedOfP;
        d = d * 31 + waves.speedOfS;
        for (int k = 0; k < stations.size(); k++) {
            d = digestStation(d, stations.get(k));
        }
        for (int k = 0; k < picks.size(); k++) {
            d = digestPick(d, picks.get(k));
        }
        for (int k = 0; k < events.size(); k++) {
            d = digestEvent(d, events.get(k));
        }
        return d;
    }

    // ---- looking at arguments

    private static boolean isPlace(int x, int y, int z) {
        return x >= 0 && x <= GREATEST_X && y >= 0 && y <= GREATEST_Y && z >= 0 && z <= GREATEST_Z;
    }

    private static void requirePlace(int x, int y, int z) {
        if (!isPlace(x, y, z)) {
            throw new IllegalArgumentException("no place");
        }
    }

    private static void requireFound(Event quake) {
        if (!quake.found) {
            throw new IllegalStateException("the event is not found");
        }
    }

    private static void requireLimits(int near, int soon) {
        if (near < 0 || near > GREATEST_NEAR) {
            throw new IllegalArgumentException("near is outside");
        }
        if (soon < 0 || soon > LATEST) {
            throw new IllegalArgumentException("soon is outside");
        }
    }

    private Station stationAt(int number) {
        if (number < 0 || number >= stations.size()) {
            throw new IndexOutOfBoundsException("no such station");
        }
        return stations.get(number);
    }

    private Pick pickAt(int number) {
        if (number < 0 || number >= picks.size()) {
            throw new IndexOutOfBoundsException("no such pick");
        }
        return picks.get(number);
    }

    private Event eventAt(int number) {
        if (number < 0 || number >= events.size()) {
            throw new IndexOutOfBoundsException("no such event");
        }
        return events.get(number);
    }

    private static int numberOf(Event quake) {
        return quake == null ? NONE : quake.number;
    }

    // ---- counting

    private int countFound() {
        int found = 0;
        for (int k = 0; k < events.size(); k++) {
            if (events.get(k).found) {
                found++;
            }
        }
        return found;
    }

    private int countLoose() {
        int without = 0;
        for (int k = 0; k < picks.size(); k++) {
            if (picks.get(k).event == null) {
                without++;
            }
        }
        return without;
    }

    // ---- putting picks together

    private Event openEvent() {
        Event quake = new Event(events.size());
        events.add(quake);
        return quake;
    }

    private void orderLoosePicks() {
        loose.clear();
        for (int k = 0; k < picks.size(); k++) {
            Pick arrival = picks.get(k);
            if (arrival.event == null) {
                int at = loose.size();
                // Going back past later times only leaves equal times in the order of numbers.
                while (at > 0 && loose.get(at - 1).time > arrival.time) {
                    at--;
                }
                loose.add(at, arrival);
            }
        }
    }

    private Event hostFor(Pick arrival) {
        Event host = null;
        int least = 0;
        for (int k = 0; k < events.size(); k++) {
            Event quake = events.get(k);
            if (quake.found && !quake.hasAnotherLike(arrival)) {
                int difference = Math.abs(waves.lateness(arrival, quake));
                if (difference <= JOINING_LIMIT && (host == null || difference < least)) {
                    host = quake;
                    least = difference;
                }
            }
        }
        return host;
    }

    private void gatherCompanions(Pick first, int from) {
        companions.clear();
        for (int k = from; k < loose.size(); k++) {
            Pick arrival = loose.get(k);
            if (arrival.time - first.time > COMPANY_LIMIT) {
                break;
            }
            boolean mayCome = arrival.event == null && !arrival.isS && arrival.station != first.station;
            if (mayCome && !companyHears(arrival.station)) {
                companions.add(arrival);
            }
        }
    }

    private boolean companyHears(Station site) {
        for (int k = 0; k < companions.size(); k++) {
            if (companions.get(k).station == site) {
                return true;
            }
        }
        return false;
    }

    private Event openEventWithCompanions(Pick first) {
        Event quake = openEvent();
        quake.take(first);
        for (int k = 0; k < companions.size(); k++) {
            quake.take(companions.get(k));
        }
        return quake;
    }

    // ---- what found events tell

    private int gapOf(Event quake) {
        row.empty();
        for (int k = 0; k < quake.members.size(); k++) {
            Station site = quake.members.get(k).station;
            int a = site.x - quake.x;
            int b = site.y - quake.y;
            if (a != 0 || b != 0) {
                // A station that stands twice gives a bearing twice: this makes a gap of 0, and no other greater.
                row.put(bearing(a, b), 1);
            }
        }
        return row.widestGap();
    }

    private static int bearing(int a, int b) {
        int s = Math.abs(a) + Math.abs(b);
        if (s <= 0) {
            return 0;
        }
        if (a > 0 && b >= 0) {
            return 1000 * b / s;
        }
        if (a <= 0 && b > 0) {
            return 1000 - 1000 * a / s;
        }
        if (a < 0) {
            return 2000 - 1000 * b / s;
        }
        return 3000 + 1000 * a / s;
    }

    private int magnitudeOf(Event quake) {
        row.empty();
        for (int k = 0; k < quake.members.size(); k++) {
            Pick arrival = quake.members.get(k);
            if (arrival.amplitude > 0) {
                int far = arrival.station.wayTo(quake.x, quake.y, quake.z) / 10000;
                row.put(3 * binaryDigits(arrival.amplitude) + far, 1);
            }
        }
        return row.total > 0 ? row.middle() : -1;
    }

    private static int binaryDigits(int number) {
        int digits = 0;
        for (int k = 0; k < 31; k++) {
            if (number >> k > 0) {
                digits++;
            }
        }
        return digits;
    }

    private void labelFamilies(int near, int soon) {
        for (int k = 0; k < events.size(); k++) {
            events.get(k).label = k;
        }
        for (int k = 0; k < events.size(); k++) {
            for (int m = 0; m < k; m++) {
                if (events.get(k).isRelated(events.get(m), near, soon)) {
                    joinLabels(events.get(k).label, events.get(m).label);
                }
            }
        }
    }

    private void joinLabels(int one, int other) {
        int lesser = Math.min(one, other);
        int greater = Math.max(one, other);
        for (int k = 0; k < events.size(); k++) {
            Event quake = events.get(k);
            if (quake.label == greater) {
                quake.label = lesser;
            }
        }
    }

    // ---- parts of the checksum

    private static long digestStation(long before, Station site) {
        long d = before;
        d = d * 31 + site.x;
        d = d * 31 + site.y;
        d = d * 31 + site.delay;
        return d;
    }

    private static long digestPick(long before, Pick arrival) {
        long d = before;
        d = d * 31 + arrival.station.number;
        d = d * 31 + (arrival.isS ? 1 : 0);
        d = d * 31 + arrival.time;
        d = d * 31 + arrival.weight;
        d = d * 31 + numberOf(arrival.event);
        d = d * 31 + arrival.amplitude;
        return d;
    }

    private long digestEvent(long before, Event quake) {
        long d = before * 31 + quake.members.size();
        if (quake.found) {
            d = d * 31 + quake.x;
            d = d * 31 + quake.y;
            d = d * 31 + quake.z;
            d = d * 31 + quake.time;
            d = d * 31 + gapOf(quake);
            d = d * 31 + magnitudeOf(quake);
        }
        return d;
    }

    private static final class Station {
        final int number;
        final int x;
        final int y;
        int delay;

        Station(int number, int x, int y) {
            this.number = number;
            this.x = x;
            this.y = y;
        }

        /** The way to a place in whole metres. */
        int wayTo(int toX, int toY, int toZ) {
            long a = 1000L * (toX < x ? x - toX : toX - x);
            long b = 1000L * (toY < y ? y - toY : toY - y);
            long c = 1000L * toZ;
            long square = a * a + b * b + c * c;
            // Newton's rule falls to the root from every number above it, and the sum of the sides is one.
            long root = a + b + c;
            for (int step = 0; step < 64 && root > 0; step++) {
                long next = (root + square / root) / 2;
                if (next >= root) {
                    break;
                }
                root = next;
            }
            return (int) root;
        }
    }

    private static final class Pick {
        final int number;
        final Station station;
        final boolean isS;
        final int time;
        int weight = GREATEST_WEIGHT;
        int amplitude;
        Event event;

        Pick(int number, Station station, boolean isS, int time) {
            this.number = number;
            this.station = station;
            this.isS = isS;
            this.time = time;
        }
    }

    private static final class Event {
        final int number;
        final ArrayList<Pick> members = new ArrayList<>();
        boolean found;
        int x;
        int y;
        int z;
        int time;
        int label;

        Event(int number) {
            this.number = number;
        }

        void take(Pick arrival) {
            members.add(arrival);
            arrival.event = this;
        }

        void drop(Pick arrival) {
            for (int k = 0; k < members.size(); k++) {
                if (members.get(k) == arrival) {
                    members.remove(k);
                    break;
                }
            }
            arrival.event = null;
        }

        boolean hears(Station site) {
            for (int k = 0; k < members.size(); k++) {
                if (members.get(k).station == site) {
                    return true;
                }
            }
            return false;
        }

        boolean hasAnotherLike(Pick arrival) {
            for (int k = 0; k < members.size(); k++) {
                Pick member = members.get(k);
                if (member != arrival && member.station == arrival.station && member.isS == arrival.isS) {
                    return true;
                }
            }
            return false;
        }

        int countStations() {
            int heard = 0;
            for (int k = 0; k < members.size(); k++) {
                heard |= 1 << members.get(k).station.number;
            }
            return Integer.bitCount(heard);
        }

        int distanceTo(int toX, int toY, int toZ) {
            return Math.abs(x - toX) + Math.abs(y - toY) + Math.abs(z - toZ);
        }

        boolean isRelated(Event other, int near, int soon) {
            return found && other.found
                    && distanceTo(other.x, other.y, other.z) <= near
                    && Math.abs(time - other.time) <= soon;
        }
    }

    private static final class Waves {
        int speedOfP = FIRST_SPEED;
        int speedOfS = FIRST_SPEED * 100 / FIRST_RATIO;

        int travel(Station site, int x, int y, int z, boolean isS) {
            int speed = isS ? speedOfS : speedOfP;
            // Only speeds above 0 are ever set; the test keeps the division safe by itself.
            return speed > 0 ? site.wayTo(x, y, z) * 1000 / speed + site.delay : site.delay;
        }

        /** How much later than the time of a found event a pick starts, for the event's place. */
        int lateness(Pick arrival, Event quake) {
            return arrival.time - travel(arrival.station, quake.x, quake.y, quake.z, arrival.isS) - quake.time;
        }
    }

    /** Numbers in ascending order, each with a weight; one row serves all calls, so that no call makes arrays. */
    private static final class Row {
        private final int[] numbers = new int[MOST_PICKS];
        private final int[] weights = new int[MOST_PICKS];
        private int size;
        private int total;

        void empty() {
            size = 0;
            total = 0;
        }

        void put(int number, int weight) {
            if (size >= numbers.length) {
                return;
            }
            int at = size;
            while (at > 0 && numbers[at - 1] > number) {
                numbers[at] = numbers[at - 1];
                weights[at] = weights[at - 1];
                at--;
            }
            numbers[at] = number;
            weights[at] = weight;
            size++;
            total += weight;
        }

        /** The middle number, each standing as often as its weight says; 0 if there is none. */
        int middle() {
            int ahead = (total - 1) / 2;
            for (int k = 0; k < size; k++) {
                ahead -= weights[k];
                if (ahead < 0) {
                    return numbers[k];
                }
            }
            return 0;
        }

        long distanceFrom(int number) {
            long sum = 0;
            for (int k = 0; k < size; k++) {
                sum += (long) weights[k] * Math.abs(numbers[k] - number);
            }
            return sum;
        }

        /** The greatest gap between neighbours on the circle of bearings. */
        int widestGap() {
            if (size < 2) {
                return FULL_CIRCLE;
            }
            int widest = FULL_CIRCLE - (numbers[size - 1] - numbers[0]);
            for (int k = 1; k < size; k++) {
                widest = Math.max(widest, numbers[k] - numbers[k - 1]);
            }
            return widest;
        }
    }

    /** Seeks events; it keeps the best place of a round in fields, so that a place makes no object. */
    private static final class Search {
        private static final int COARSE_STEP = 20;
        private static final int[] FINER_STEPS = {10, 5, 2, 1};

        private final Waves waves;
        private final Row row;
        private boolean hasBest;
        private int bestX;
        private int bestY;
        private int bestZ;
        private int bestBegin;
        private long leastMisfit;

        Search(Waves waves, Row row) {
            this.waves = waves;
            this.row = row;
        }

        /** Finds the event and returns its misfit. */
        long locate(Event quake) {
            scan(quake, 0, 0, 0, GREATEST_X / COARSE_STEP + 1, GREATEST_Z / COARSE_STEP + 1, COARSE_STEP);
            for (int k = 0; k < FINER_STEPS.length; k++) {
                int step = FINER_STEPS[k];
                scan(quake, bestX - step, bestY - step, bestZ - step, 3, 3, step);
            }
            quake.x = bestX;
            quake.y = bestY;
            quake.z = bestZ;
            quake.time = bestBegin;
            quake.found = true;
            return leastMisfit;
        }

        // Going by z, then x, then y, the first place with the least misfit is the one that is due of several.
        private void scan(Event quake, int lowX, int lowY, int lowZ, int across, int down, int step) {
            hasBest = false;
            for (int k = 0; k < down; k++) {
                for (int i = 0; i < across; i++) {
                    for (int j = 0; j < across; j++) {
                        offer(quake, lowX + i * step, lowY + j * step, lowZ + k * step);
                    }
                }
            }
        }

        private void offer(Event quake, int x, int y, int z) {
            if (!isPlace(x, y, z)) {
                return;
            }
            fillWithStarts(quake, x, y, z);
            int begin = row.middle();
            long distance = row.distanceFrom(begin);
            if (!hasBest || distance < leastMisfit) {
                hasBest = true;
                bestX = x;
                bestY = y;
                bestZ = z;
                bestBegin = begin;
                leastMisfit = distance;
            }
        }

        void fillWithStarts(Event quake, int x, int y, int z) {
            row.empty();
            for (int k = 0; k < quake.members.size(); k++) {
                Pick arrival = quake.members.get(k);
                row.put(arrival.time - waves.travel(arrival.station, x, y, z, arrival.isS), arrival.weight);
            }
        }
    }
}
