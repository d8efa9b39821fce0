/** Promise 20: gap. */
public final class GapTest {
    private GapTest() {
    }

    public static void main(String[] args) {
        gapsOfASquare();
        bearingsBetweenTheAxes();
        bearingIsCutInEachQuarter();
        bearingsNextToAnAxis();
        bearingsOneKilometreAway();
        gapBeyondTheGreatestBearing();
        gapOfOneSide();
        gapOffTheDiagonal();
        stationAtThePlaceHasNone();
        noBearing();
        oneBearing();
        twoBearings();
        equalBearings();
        bothWavesOfAStation();
        otherStationsDoNotCount();
        depthDoesNotCount();
        gapOfAnEventNotFound();
        gapOfNoEvent();
        Check.end();
    }

    /** A bench with the event 0, found at (x, y, 0) by stations at these places. */
    private static QuakeBench around(int x, int y, int... places) {
        QuakeBench bench = new QuakeBench();
        for (int k = 0; k + 1 < places.length; k += 2) {
            bench.addStation(places[k], places[k + 1]);
        }
        Benches.quake(bench, x, y, 0, 100000);
        return bench;
    }

    private static void dueAround(String stations, int want, int... places) {
        Check.due("gap(0), " + stations, around(100, 100, places).gap(0), want);
    }

    private static void gapsOfASquare() {
        dueAround("bearings 0, 1000, 2000, 3000", 1000, 50, 100, 150, 100, 100, 50, 100, 150);
    }

    private static void bearingsBetweenTheAxes() {
        dueAround("bearings 500, 1500, 2500, 3500", 1000, 150, 150, 50, 150, 50, 50, 150, 50);
        // 1000 * 20 / 80 and 1000 * 60 / 80 in each quarter; the widest gap is between two quarters.
        dueAround("bearings 250, 1750, 2250, 3750", 1500, 160, 120, 40, 120, 40, 80, 160, 80);
        dueAround("bearings 750, 1250, 2750, 3250", 1500, 120, 160, 80, 160, 80, 40, 120, 40);
    }

    /** "What is said to be divided is cut towards 0", also below it; 30 of 90 is 333.33. */
    private static void bearingIsCutInEachQuarter() {
        dueAround("bearings 333, 1000, 2000, 3000", 1333, 160, 130, 100, 150, 50, 100, 100, 50);
        dueAround("bearings 0, 1333, 2000, 3000", 1333, 150, 100, 70, 160, 50, 100, 100, 50);
        dueAround("bearings 0, 1000, 2333, 3000", 1333, 150, 100, 100, 150, 40, 70, 100, 50);
        dueAround("bearings 0, 1000, 2000, 3333", 1333, 150, 100, 100, 150, 50, 100, 130, 40);
    }

    /** One km beside each axis, on both sides; 1000 * 1 / 51 is 19.6 and 1000 * 50 / 51 is 980.4. */
    private static void bearingsNextToAnAxis() {
        dueAround("bearings 19, 2000, 3000", 1981, 150, 101, 50, 100, 100, 50, 100, 100);
        dueAround("bearings 980, 2000, 3000", 1980, 101, 150, 50, 100, 100, 50, 100, 100);
        dueAround("bearings 1019, 3000, 0", 1981, 99, 150, 100, 50, 150, 100, 100, 100);
        dueAround("bearings 1980, 3000, 0", 1980, 50, 101, 100, 50, 150, 100, 100, 100);
        dueAround("bearings 2019, 0, 1000", 1981, 50, 99, 150, 100, 100, 150, 100, 100);
        dueAround("bearings 2980, 0, 1000", 1980, 99, 50, 150, 100, 100, 150, 100, 100);
        dueAround("bearings 3019, 1000, 2000", 1981, 101, 50, 100, 150, 50, 100, 100, 100);
        dueAround("bearings 3980, 1000, 2000", 1980, 150, 99, 100, 150, 50, 100, 100, 100);
    }

    /** The least sum of differences that makes a bearing: 1 along each axis, 2 between two of them. */
    private static void bearingsOneKilometreAway() {
        dueAround("bearings 0 at 1 km, 2000, 3000", 2000, 101, 100, 50, 100, 100, 50, 100, 100);
        dueAround("bearings 1000 at 1 km, 3000, 0", 2000, 100, 101, 100, 50, 150, 100, 100, 100);
        dueAround("bearings 2000 at 1 km, 0, 1000", 2000, 99, 100, 150, 100, 100, 150, 100, 100);
        dueAround("bearings 3000 at 1 km, 0, 1000", 2000, 100, 99, 150, 100, 100, 150, 100, 100);
        dueAround("bearings 500 at 1 km each, 2000, 3000", 1500, 101, 101, 50, 100, 100, 50, 100, 100);
        dueAround("bearings 1500 at 1 km each, 3000, 0", 1500, 99, 101, 100, 50, 150, 100, 100, 100);
        dueAround("bearings 2500 at 1 km each, 0, 1000", 1500, 99, 99, 150, 100, 100, 150, 100, 100);
        dueAround("bearings 3500 at 1 km each, 1000, 2000", 1500, 101, 99, 100, 150, 50, 100, 100, 100);
    }

    /** "and 4000 less the difference of the greatest and the least one". */
    private static void gapBeyondTheGreatestBearing() {
        dueAround("bearings 1333, 1750, 2333, 2666", 4000 - (2666 - 1333), 80, 140, 40, 120, 40, 70, 70, 40, 100, 100);
        dueAround("bearings 750, 1500, 2333, 3250", 1500, 120, 160, 50, 150, 40, 70, 120, 40, 100, 100);
    }

    private static void gapOfOneSide() {
        QuakeBench bench = around(0, 0, 100, 0, 0, 100, 100, 100, 30, 60);
        Check.due("gap(0), bearings 0, 500, 666, 1000", bench.gap(0), 3000);
    }

    /** The x and the y of the place differ: (80, 20), (-20, 60), (-60, -30) and (40, -80) from (60, 140). */
    private static void gapOffTheDiagonal() {
        QuakeBench bench = around(60, 140, 140, 160, 40, 200, 0, 110, 100, 60, 60, 140);
        Check.due("gap(0), bearings 200, 1250, 2333, 3333", bench.gap(0), 1083);
        // (20, 80), (60, -20), (-30, -60) and (-80, 40) from (140, 60), the other way about.
        QuakeBench other = around(140, 60, 160, 140, 200, 40, 110, 0, 60, 100, 140, 60);
        Check.due("gap(0), bearings 800, 1666, 2666, 3750", other.gap(0), 1084);
    }

    /** "a station at (x, y) itself has none": a bearing of 0 for it would part the gap of 1750 there. */
    private static void stationAtThePlaceHasNone() {
        QuakeBench bench = around(100, 100, 100, 150, 50, 100, 80, 40, 100, 100);
        Check.due("gap(0), bearings 1000, 2000, 2750 and none", bench.gap(0), 2250);
        QuakeBench other = around(0, 0, 0, 0, 0, 0, 100, 100, 60, 180);
        Check.due("gap(0), bearings 500, 750 and none twice", other.gap(0), 3750);
    }

    /** "4000 if there are fewer than 2 bearings". */
    private static void noBearing() {
        QuakeBench bench = Benches.spot(100, 100, 100);
        bench.seek(0);
        Check.due("gap(0) without bearings", bench.gap(0), 4000);
    }

    private static void oneBearing() {
        QuakeBench bench = around(0, 0, 0, 0, 0, 0, 0, 100);
        Check.due("gap(0), the bearing 1000", bench.gap(0), 4000);
    }

    private static void twoBearings() {
        QuakeBench bench = around(0, 0, 0, 0, 100, 0, 0, 100);
        Check.due("gap(0), bearings 0 and 1000", bench.gap(0), 3000);
    }

    private static void equalBearings() {
        QuakeBench bench = around(0, 0, 0, 0, 50, 50, 100, 100);
        Check.due("gap(0), the bearing 500 twice", bench.gap(0), 4000);
    }

    private static void bothWavesOfAStation() {
        QuakeBench bench = Benches.found();
        for (int station = 0; station < 4; station++) {
            bench.addPick(station, true, 15417);
        }
        Check.due("associate()", bench.associate(), 4);
        Check.due("gap(0) with both waves", bench.gap(0), 1000);
    }

    private static void otherStationsDoNotCount() {
        QuakeBench bench = Benches.found();
        bench.give(0, -1);
        bench.addStation(40, 100);
        bench.addPick(4, false, 20000);
        bench.seek(0);
        Check.found(bench, 0, 100, 100, 0, 1000);
        // Without the station 0 there is no bearing of 2000.
        Check.due("gap(0), bearings 0, 1000, 3000", bench.gap(0), 2000);
    }

    private static void depthDoesNotCount() {
        QuakeBench bench = Benches.squareWithCentre();
        Benches.quake(bench, 100, 100, 60, 1000);
        Check.due("gap(0), 60 km deep", bench.gap(0), 1000);
    }

    private static void gapOfAnEventNotFound() {
        QuakeBench bench = Benches.found();
        bench.addEvent();
        Check.refused(bench, "gap(1)", Check.STATE, () -> bench.gap(1));
    }

    private static void gapOfNoEvent() {
        QuakeBench bench = Benches.found();
        for (int beyond : Check.beyond(0, 0)) {
            Check.refused(bench, "gap(" + beyond + ")", Check.OUTSIDE, () -> bench.gap(beyond));
        }
    }
}
