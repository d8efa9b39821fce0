/** Benches that several tests start from. */
final class Benches {
    private Benches() {
    }

    /** Four stations around (100, 100), each 50 km from there: P needs 8333 ms for this way, S 14417 ms. */
    static QuakeBench square() {
        QuakeBench bench = new QuakeBench();
        bench.addStation(50, 100);
        bench.addStation(150, 100);
        bench.addStation(100, 50);
        bench.addStation(100, 150);
        return bench;
    }

    /** The square with a fifth station at (100, 100), which tells how deep an event below it is. */
    static QuakeBench squareWithCentre() {
        QuakeBench bench = square();
        bench.addStation(100, 100);
        return bench;
    }

    /** The square with the event 0, found at (100, 100, 0) and 1000, and its picks 0 to 3. */
    static QuakeBench found() {
        QuakeBench bench = square();
        quake(bench, 100, 100, 0, 1000);
        return bench;
    }

    /**
     * Stations that are all at (0, 0), with a P pick each at these times, all given to the event 0.
     * Every place has the same misfit, so that it is found at (0, 0, 0), and its starts are the times.
     */
    static QuakeBench spot(int... times) {
        QuakeBench bench = new QuakeBench();
        bench.addEvent();
        for (int k = 0; k < times.length; k++) {
            bench.addStation(0, 0);
            bench.addPick(k, false, times[k]);
            bench.give(k, 0);
        }
        return bench;
    }

    /** Adds an event with a P pick of every station that fits this place and time to the letter, and seeks it. */
    static int quake(QuakeBench bench, int x, int y, int z, int time) {
        int event = bench.addEvent();
        int stations = bench.count(0);
        for (int station = 0; station < stations; station++) {
            bench.give(bench.addPick(station, false, time + bench.needs(station, x, y, z, false)), event);
        }
        Check.due("seek(" + event + ")", bench.seek(event), 0);
        Check.found(bench, event, x, y, z, time);
        return event;
    }

    /**
     * All places taken: 10 stations, 80 picks (0 to 7 with events, 8 to 79 without) and 12 events, of which 0 and 1
     * are found with four picks each and the others are without picks.
     */
    static QuakeBench full() {
        QuakeBench bench = square();
        quake(bench, 100, 100, 0, 1000);
        quake(bench, 100, 120, 0, 4000);
        for (int k = 4; k < 10; k++) {
            bench.addStation(20 * k, 7 * k);
        }
        for (int k = 8; k < 80; k++) {
            bench.addPick(k % 10, k % 20 >= 10, 1000 * k);
        }
        for (int k = 2; k < 12; k++) {
            bench.addEvent();
        }
        return bench;
    }
}
