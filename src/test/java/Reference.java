import java.math.BigInteger;
import java.util.ArrayList;
import java.util.Collections;
import java.util.Comparator;
import java.util.HashSet;
import java.util.List;
import java.util.Set;
import java.util.TreeSet;

/** The document once more, in the slowest and plainest words; the bench is compared with it. */
final class Reference {
    private final List<int[]> stations = new ArrayList<>();
    private final List<int[]> picks = new ArrayList<>();
    private final List<int[]> events = new ArrayList<>();
    private int v = 6000;
    private int r = 173;

    // A station: x, y, delay. A pick: station, S, time, weight, event, amplitude. An event: found, x, y, z, time.
    private static final int EVENT = 4;
    private static final int AMPLITUDE = 5;

    private static void index(boolean good) {
        if (!good) {
            throw new IndexOutOfBoundsException();
        }
    }

    private static void argument(boolean good) {
        if (!good) {
            throw new IllegalArgumentException();
        }
    }

    private static void state(boolean good) {
        if (!good) {
            throw new IllegalStateException();
        }
    }

    private static boolean within(long x, long low, long high) {
        return low <= x && x <= high;
    }

    private static boolean place(int x, int y, int z) {
        return within(x, 0, 200) && within(y, 0, 200) && within(z, 0, 60);
    }

    private boolean isStation(int n) {
        return within(n, 0, stations.size() - 1);
    }

    private boolean isPick(int n) {
        return within(n, 0, picks.size() - 1);
    }

    private boolean isEvent(int n) {
        return within(n, 0, events.size() - 1);
    }

    private boolean found(int event) {
        return events.get(event)[0] == 1;
    }

    private List<Integer> picksOf(int event) {
        List<Integer> all = new ArrayList<>();
        for (int p = 0; p < picks.size(); p++) {
            if (picks.get(p)[EVENT] == event) {
                all.add(p);
            }
        }
        return all;
    }

    private Set<Integer> stationsOf(int event) {
        Set<Integer> all = new HashSet<>();
        for (int p : picksOf(event)) {
            all.add(picks.get(p)[0]);
        }
        return all;
    }

    int addStation(int x, int y) {
        argument(place(x, y, 0));
        state(stations.size() < 10);
        stations.add(new int[] {x, y, 0});
        return stations.size() - 1;
    }

    int setDelay(int station, int delay) {
        index(isStation(station));
        argument(within(delay, -2000, 2000));
        int before = stations.get(station)[2];
        stations.get(station)[2] = delay;
        for (int e = 0; e < events.size(); e++) {
            if (stationsOf(e).contains(station)) {
                events.get(e)[0] = 0;
            }
        }
        return before;
    }

    int setSpeeds(int newV, int newR) {
        argument(within(newV, 3000, 9000) && within(newR, 150, 200));
        v = newV;
        r = newR;
        for (int[] event : events) {
            event[0] = 0;
        }
        return v * 100 / r;
    }

    int way(int station, int x, int y, int z) {
        index(isStation(station));
        argument(place(x, y, z));
        long a = 1000L * (stations.get(station)[0] - x);
        long b = 1000L * (stations.get(station)[1] - y);
        long c = 1000L * z;
        return BigInteger.valueOf(a * a + b * b + c * c).sqrt().intValueExact();
    }

    int needs(int station, int x, int y, int z, boolean isS) {
        long speed = isS ? v * 100 / r : v;
        return (int) (way(station, x, y, z) * 1000L / speed) + stations.get(station)[2];
    }

    int addPick(int station, boolean isS, int time) {
        index(isStation(station));
        argument(within(time, 0, 10000000));
        state(picks.size() < 80);
        picks.add(new int[] {station, isS ? 1 : 0, time, 4, -1, 0});
        return picks.size() - 1;
    }

    int setWeight(int pick, int weight) {
        index(isPick(pick));
        argument(within(weight, 1, 4));
        int before = picks.get(pick)[3];
        picks.get(pick)[3] = weight;
        lose(picks.get(pick)[EVENT]);
        return before;
    }

    private void lose(int event) {
        if (event != -1) {
            events.get(event)[0] = 0;
        }
    }

    int pick(int pick, int what) {
        index(isPick(pick) && within(what, 0, 4));
        return picks.get(pick)[what];
    }

    int addEvent() {
        state(events.size() < 12);
        events.add(new int[5]);
        return events.size() - 1;
    }

    private boolean free(int pick, int event) {
        for (int p : picksOf(event)) {
            if (p != pick && picks.get(p)[0] == picks.get(pick)[0] && picks.get(p)[1] == picks.get(pick)[1]) {
                return false;
            }
        }
        return true;
    }

    int give(int pick, int event) {
        index(isPick(pick) && (event == -1 || isEvent(event)));
        state(event == -1 || free(pick, event));
        int before = picks.get(pick)[EVENT];
        lose(before);
        lose(event);
        picks.get(pick)[EVENT] = event;
        return before;
    }

    int associate() {
        List<Integer> order = new ArrayList<>();
        for (int p = 0; p < picks.size(); p++) {
            order.add(p);
        }
        order.sort(Comparator.<Integer>comparingInt(p -> picks.get(p)[2]).thenComparingInt(p -> p));
        int before = count(4);
        for (int at = 0; at < order.size(); at++) {
            int p = order.get(at);
            if (picks.get(p)[EVENT] == -1 && !join(p) && picks.get(p)[1] == 0) {
                open(p, order.subList(at + 1, order.size()));
            }
        }
        return before - count(4);
    }

    private boolean join(int p) {
        TreeSet<Long> offers = new TreeSet<>();
        for (int e = 0; e < events.size(); e++) {
            if (found(e) && free(p, e)) {
                offers.add(Math.abs((long) late(p, e)) * 100 + e);
            }
        }
        if (offers.isEmpty() || offers.first() / 100 > 1500) {
            return false;
        }
        picks.get(p)[EVENT] = (int) (offers.first() % 100);
        return true;
    }

    private void open(int p, List<Integer> behind) {
        List<Integer> company = new ArrayList<>();
        Set<Integer> heard = new HashSet<>();
        heard.add(picks.get(p)[0]);
        for (int q : behind) {
            int[] other = picks.get(q);
            if (other[1] == 0 && other[EVENT] == -1 && other[2] <= picks.get(p)[2] + 40000 && heard.add(other[0])) {
                company.add(q);
            }
        }
        if (company.size() >= 3 && events.size() < 12) {
            int event = addEvent();
            picks.get(p)[EVENT] = event;
            for (int q : company) {
                picks.get(q)[EVENT] = event;
            }
            seek(event);
        }
    }

    int count(int what) {
        index(within(what, 0, 4));
        int foundOnes = 0;
        for (int[] event : events) {
            foundOnes += event[0];
        }
        return new int[] {stations.size(), picks.size(), events.size(), foundOnes, picksOf(-1).size()}[what];
    }

    private int late(int pick, int event) {
        int[] e = events.get(event);
        return start(pick, e[1], e[2], e[3]) - e[4];
    }

    private int start(int pick, int x, int y, int z) {
        int[] p = picks.get(pick);
        return p[2] - needs(p[0], x, y, z, p[1] == 1);
    }

    private static int middle(List<Integer> numbers) {
        Collections.sort(numbers);
        return numbers.get((numbers.size() - 1) / 2);
    }

    private List<Integer> starts(int event, int x, int y, int z) {
        List<Integer> all = new ArrayList<>();
        for (int p : picksOf(event)) {
            all.addAll(Collections.nCopies(picks.get(p)[3], start(p, x, y, z)));
        }
        return all;
    }

    long seek(int event) {
        index(isEvent(event));
        state(stationsOf(event).size() >= 3);
        List<int[]> places = new ArrayList<>();
        for (int x = 0; x <= 200; x += 20) {
            for (int y = 0; y <= 200; y += 20) {
                for (int z = 0; z <= 60; z += 20) {
                    places.add(new int[] {x, y, z});
                }
            }
        }
        int[] best = best(event, places);
        for (int step : new int[] {10, 5, 2, 1}) {
            places.clear();
            for (int k = 0; k < 27; k++) {
                int[] p = {best[0] + (k % 3 - 1) * step, best[1] + (k / 3 % 3 - 1) * step, best[2] + (k / 9 - 1) * step};
                if (place(p[0], p[1], p[2])) {
                    places.add(p);
                }
            }
            best = best(event, places);
        }
        int begin = middle(starts(event, best[0], best[1], best[2]));
        events.set(event, new int[] {1, best[0], best[1], best[2], begin});
        return misfit(event, best[0], best[1], best[2]);
    }

    private int[] best(int event, List<int[]> places) {
        return Collections.min(places, Comparator.<int[]>comparingLong(p -> misfit(event, p[0], p[1], p[2]))
                .thenComparingInt(p -> p[2]).thenComparingInt(p -> p[0]).thenComparingInt(p -> p[1]));
    }

    int event(int event, int what) {
        index(isEvent(event) && within(what, 0, 5));
        state(found(event) || what >= 4);
        if (what == 4) {
            return picksOf(event).size();
        }
        return what == 5 ? stationsOf(event).size() : events.get(event)[what + 1];
    }

    long misfit(int event, int x, int y, int z) {
        index(isEvent(event));
        argument(place(x, y, z));
        List<Integer> all = starts(event, x, y, z);
        long sum = 0;
        if (!all.isEmpty()) {
            int begin = middle(all);
            for (int start : all) {
                sum += Math.abs((long) start - begin);
            }
        }
        return sum;
    }

    int residual(int pick) {
        index(isPick(pick));
        int event = picks.get(pick)[EVENT];
        state(event != -1 && found(event));
        return late(pick, event);
    }

    int worst(int event) {
        index(isEvent(event));
        state(found(event));
        return Collections.max(picksOf(event), Comparator.<Integer>comparingInt(p -> Math.abs(late(p, event)))
                .thenComparingInt(p -> -p));
    }

    double spread(int event) {
        index(isEvent(event));
        state(found(event));
        long sum = 0;
        long n = 0;
        for (int p : picksOf(event)) {
            sum += (long) picks.get(p)[3] * Math.abs(late(p, event));
            n += picks.get(p)[3];
        }
        return (double) sum / n;
    }

    int gap(int event) {
        index(isEvent(event));
        state(found(event));
        List<Integer> bearings = new ArrayList<>();
        for (int station : stationsOf(event)) {
            int a = stations.get(station)[0] - events.get(event)[1];
            int b = stations.get(station)[1] - events.get(event)[2];
            int s = Math.abs(a) + Math.abs(b);
            if (a > 0 && b >= 0) {
                bearings.add(1000 * b / s);
            } else if (a <= 0 && b > 0) {
                bearings.add(1000 - 1000 * a / s);
            } else if (a < 0 && b <= 0) {
                bearings.add(2000 - 1000 * b / s);
            } else if (a >= 0 && b < 0) {
                bearings.add(3000 + 1000 * a / s);
            }
        }
        if (bearings.size() < 2) {
            return 4000;
        }
        Collections.sort(bearings);
        bearings.add(bearings.get(0) + 4000);
        int widest = 0;
        for (int k = 1; k < bearings.size(); k++) {
            widest = Math.max(widest, bearings.get(k) - bearings.get(k - 1));
        }
        return widest;
    }

    int setAmplitude(int pick, int amplitude) {
        index(isPick(pick));
        argument(within(amplitude, 1, 1000000000));
        int before = picks.get(pick)[AMPLITUDE];
        picks.get(pick)[AMPLITUDE] = amplitude;
        return before;
    }

    int magnitude(int event) {
        index(isEvent(event));
        state(found(event));
        int[] e = events.get(event);
        List<Integer> all = new ArrayList<>();
        for (int p : picksOf(event)) {
            int amplitude = picks.get(p)[AMPLITUDE];
            if (amplitude != 0) {
                int far = way(picks.get(p)[0], e[1], e[2], e[3]) / 10000;
                all.add(3 * Integer.toBinaryString(amplitude).length() + far);
            }
        }
        return all.isEmpty() ? -1 : middle(all);
    }

    private boolean related(int one, int other, int near, int soon) {
        int[] a = events.get(one);
        int[] b = events.get(other);
        int apart = Math.abs(a[1] - b[1]) + Math.abs(a[2] - b[2]) + Math.abs(a[3] - b[3]);
        return found(one) && found(other) && apart <= near && Math.abs(a[4] - b[4]) <= soon;
    }

    private Set<Integer> familyOf(int event, int near, int soon) {
        Set<Integer> all = new TreeSet<>();
        List<Integer> open = new ArrayList<>();
        open.add(event);
        while (!open.isEmpty()) {
            int one = open.remove(0);
            if (all.add(one)) {
                for (int e = 0; e < events.size(); e++) {
                    if (related(one, e, near, soon)) {
                        open.add(e);
                    }
                }
            }
        }
        return all;
    }

    int families(int near, int soon) {
        argument(within(near, 0, 500) && within(soon, 0, 10000000));
        Set<Set<Integer>> all = new HashSet<>();
        for (int e = 0; e < events.size(); e++) {
            if (found(e)) {
                all.add(familyOf(e, near, soon));
            }
        }
        return all.size();
    }

    int family(int event, int near, int soon) {
        index(isEvent(event));
        argument(within(near, 0, 500) && within(soon, 0, 10000000));
        state(found(event));
        return familyOf(event, near, soon).size();
    }

    int nearest(int x, int y, int z) {
        argument(place(x, y, z));
        int best = -1;
        int least = Integer.MAX_VALUE;
        for (int e = 0; e < events.size(); e++) {
            int[] at = events.get(e);
            int apart = Math.abs(at[1] - x) + Math.abs(at[2] - y) + Math.abs(at[3] - z);
            if (found(e) && apart < least) {
                least = apart;
                best = e;
            }
        }
        return best;
    }

    long digest() {
        List<Integer> numbers = new ArrayList<>();
        for (int what = 0; what <= 4; what++) {
            numbers.add(count(what));
        }
        numbers.add(v);
        numbers.add(v * 100 / r);
        for (int[] station : stations) {
            Collections.addAll(numbers, station[0], station[1], station[2]);
        }
        for (int p = 0; p < picks.size(); p++) {
            for (int what = 0; what <= 4; what++) {
                numbers.add(pick(p, what));
            }
            numbers.add(picks.get(p)[AMPLITUDE]);
        }
        for (int e = 0; e < events.size(); e++) {
            numbers.add(event(e, 4));
            if (found(e)) {
                Collections.addAll(numbers, event(e, 0), event(e, 1), event(e, 2), event(e, 3), gap(e), magnitude(e));
            }
        }
        long d = 337;
        for (int x : numbers) {
            d = d * 31 + x;
        }
        return d;
    }
}
