/** Promises 2 to 4: addStation, setDelay, setSpeeds. */
public final class StationsTest {
    private StationsTest() {
    }

    public static void main(String[] args) {
        stationsAreNumberedFromNought();
        leastAndGreatestPlaceOfAStation();
        placeOfAStationBeyond();
        stationIsAtTheDepthNought();
        stationHasTheDelayNought();
        stationsMayStandAtOnePlace();
        tenStationsAndNoMore();
        refusedStationTakesNoPlace();
        leastAndGreatestDelay();
        delayBeyond();
        delayBeforeIsReturned();
        delayIsOfItsStationAlone();
        delayOfNoStation();
        leastAndGreatestSpeeds();
        speedBeyond();
        ratioBeyond();
        speedOfSIsCut();
        speedsCountAtOnce();
        Check.end();
    }

    // ---- addStation

    private static void stationsAreNumberedFromNought() {
        QuakeBench bench = new QuakeBench();
        for (int k = 0; k < 10; k++) {
            Check.due("addStation, the number " + k, bench.addStation(20 * k, 10 * k), k);
            Check.due("count(0)", bench.count(0), k + 1);
        }
        for (int k = 0; k < 10; k++) {
            Check.due("way to the station " + k + " itself", bench.way(k, 20 * k, 10 * k, 0), 0);
        }
    }

    /** "x and y 0 to 200". */
    private static void leastAndGreatestPlaceOfAStation() {
        QuakeBench bench = new QuakeBench();
        int[][] corners = {{0, 0}, {0, 200}, {200, 0}, {200, 200}};
        for (int k = 0; k < corners.length; k++) {
            Check.due("addStation in a corner", bench.addStation(corners[k][0], corners[k][1]), k);
            Check.due("way to it", bench.way(k, corners[k][0], corners[k][1], 0), 0);
        }
    }

    private static void placeOfAStationBeyond() {
        QuakeBench bench = new QuakeBench();
        for (int beyond : Check.beyond(0, 200)) {
            Check.refused(bench, "addStation(" + beyond + ", 0)", Check.WRONG, () -> bench.addStation(beyond, 0));
            Check.refused(bench, "addStation(200, " + beyond + ")", Check.WRONG, () -> bench.addStation(200, beyond));
        }
    }

    private static void stationIsAtTheDepthNought() {
        QuakeBench bench = new QuakeBench();
        bench.addStation(7, 9);
        Check.due("way(0, 7, 9, 0)", bench.way(0, 7, 9, 0), 0);
        Check.due("way(0, 7, 9, 60)", bench.way(0, 7, 9, 60), 60000);
    }

    private static void stationHasTheDelayNought() {
        QuakeBench bench = new QuakeBench();
        bench.addStation(7, 9);
        Check.due("needs(0, 7, 9, 0, true)", bench.needs(0, 7, 9, 0, true), 0);
        Check.due("setDelay(0, 1), the delay before", bench.setDelay(0, 1), 0);
    }

    private static void stationsMayStandAtOnePlace() {
        QuakeBench bench = new QuakeBench();
        bench.addStation(7, 9);
        Check.due("addStation(7, 9) again", bench.addStation(7, 9), 1);
    }

    /** "There are at most 10", and x and y are looked at first. */
    private static void tenStationsAndNoMore() {
        QuakeBench bench = new QuakeBench();
        for (int k = 0; k < 10; k++) {
            bench.addStation(k, k);
        }
        Check.refused(bench, "addStation(0, 0), the 11th", Check.STATE, () -> bench.addStation(0, 0));
        Check.refused(bench, "addStation(201, 0), the 11th", Check.WRONG, () -> bench.addStation(201, 0));
        Check.refused(bench, "addStation(0, -1), the 11th", Check.WRONG, () -> bench.addStation(0, -1));
        Check.due("count(0)", bench.count(0), 10);
        Check.refused(bench, "way(10, 0, 0, 0)", Check.OUTSIDE, () -> bench.way(10, 0, 0, 0));
    }

    private static void refusedStationTakesNoPlace() {
        QuakeBench bench = new QuakeBench();
        Check.refused(bench, "addStation(-1, 5)", Check.WRONG, () -> bench.addStation(-1, 5));
        Check.due("count(0)", bench.count(0), 0);
        for (int k = 0; k < 10; k++) {
            Check.due("addStation after a refused one", bench.addStation(0, k), k);
        }
    }

    // ---- setDelay

    /** "-2000 to 2000". */
    private static void leastAndGreatestDelay() {
        QuakeBench bench = new QuakeBench();
        bench.addStation(0, 0);
        bench.setDelay(0, 2000);
        Check.due("needs with the greatest delay", bench.needs(0, 60, 0, 0, false), 12000);
        bench.setDelay(0, -2000);
        Check.due("needs with the least delay", bench.needs(0, 60, 0, 0, false), 8000);
    }

    private static void delayBeyond() {
        QuakeBench bench = new QuakeBench();
        bench.addStation(0, 0);
        bench.setDelay(0, 5);
        for (int beyond : Check.beyond(-2000, 2000)) {
            Check.refused(bench, "setDelay(0, " + beyond + ")", Check.WRONG, () -> bench.setDelay(0, beyond));
        }
        Check.due("needs after refused delays", bench.needs(0, 0, 0, 0, false), 5);
    }

    private static void delayBeforeIsReturned() {
        QuakeBench bench = new QuakeBench();
        bench.addStation(0, 0);
        Check.due("setDelay(0, -2000)", bench.setDelay(0, -2000), 0);
        Check.due("setDelay(0, 2000)", bench.setDelay(0, 2000), -2000);
        Check.due("setDelay(0, 2000) again", bench.setDelay(0, 2000), 2000);
        Check.due("setDelay(0, 0)", bench.setDelay(0, 0), 2000);
    }

    private static void delayIsOfItsStationAlone() {
        QuakeBench bench = new QuakeBench();
        bench.addStation(0, 0);
        bench.addStation(0, 0);
        bench.setDelay(1, 700);
        Check.due("needs of the station 0", bench.needs(0, 0, 0, 0, true), 0);
        Check.due("needs of the station 1", bench.needs(1, 0, 0, 0, true), 700);
    }

    private static void delayOfNoStation() {
        QuakeBench bench = new QuakeBench();
        bench.addStation(0, 0);
        bench.addStation(0, 0);
        Check.due("setDelay(1, 0), the last station", bench.setDelay(1, 0), 0);
        for (int beyond : Check.beyond(0, 1)) {
            Check.refused(bench, "setDelay(" + beyond + ", 0)", Check.OUTSIDE, () -> bench.setDelay(beyond, 0));
            Check.refused(bench, "setDelay(" + beyond + ", 2001)", Check.OUTSIDE, () -> bench.setDelay(beyond, 2001));
        }
    }

    // ---- setSpeeds

    /** "3000 to 9000" and "150 to 200". */
    private static void leastAndGreatestSpeeds() {
        QuakeBench bench = new QuakeBench();
        Check.due("setSpeeds(3000, 150)", bench.setSpeeds(3000, 150), 2000);
        Check.due("setSpeeds(3000, 200)", bench.setSpeeds(3000, 200), 1500);
        Check.due("setSpeeds(9000, 150)", bench.setSpeeds(9000, 150), 6000);
        Check.due("setSpeeds(9000, 200)", bench.setSpeeds(9000, 200), 4500);
    }

    private static void speedBeyond() {
        QuakeBench bench = new QuakeBench();
        for (int beyond : Check.beyond(3000, 9000)) {
            Check.refused(bench, "setSpeeds(" + beyond + ", 173)", Check.WRONG, () -> bench.setSpeeds(beyond, 173));
        }
    }

    private static void ratioBeyond() {
        QuakeBench bench = new QuakeBench();
        for (int beyond : Check.beyond(150, 200)) {
            Check.refused(bench, "setSpeeds(5000, " + beyond + ")", Check.WRONG, () -> bench.setSpeeds(5000, beyond));
        }
        // A ratio of 0 would be a division by nought.
        Check.refused(bench, "setSpeeds(5000, 0)", Check.WRONG, () -> bench.setSpeeds(5000, 0));
        bench.addStation(0, 0);
        Check.due("needs for P after refused speeds", bench.needs(0, 60, 0, 0, false), 10000);
        Check.due("needs for S after refused speeds", bench.needs(0, 60, 0, 0, true), 17301);
    }

    private static void speedOfSIsCut() {
        QuakeBench bench = new QuakeBench();
        // 599900 / 199 is 3014.57, 700100 / 163 is 4295.09.
        Check.due("setSpeeds(5999, 199)", bench.setSpeeds(5999, 199), 3014);
        Check.due("setSpeeds(7001, 163)", bench.setSpeeds(7001, 163), 4295);
    }

    private static void speedsCountAtOnce() {
        QuakeBench bench = new QuakeBench();
        bench.addStation(0, 0);
        bench.setSpeeds(3000, 200);
        Check.due("needs for P at 3000", bench.needs(0, 60, 0, 0, false), 20000);
        Check.due("needs for S at 1500", bench.needs(0, 60, 0, 0, true), 40000);
        bench.setSpeeds(3000, 150);
        Check.due("needs for S at 2000", bench.needs(0, 60, 0, 0, true), 30000);
    }
}
