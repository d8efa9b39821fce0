/** Promises 21 and 22: setAmplitude and magnitude. */
public final class MagnitudeTest {
    private MagnitudeTest() {
    }

    public static void main(String[] args) {
        leastAndGreatestAmplitude();
        amplitudeBeyond();
        amplitudeBeforeIsReturned();
        amplitudeIsOfItsPickAlone();
        amplitudeOfNoPick();
        amplitudeLosesNoEvent();
        magnitudeWithoutAmplitudes();
        binaryDigits();
        wayIsCut();
        wayJustBelowIsCut();
        wayKnowsTheDepth();
        wayOfNought();
        middleOfOddAndEvenNumbers();
        weightsDoNotCount();
        picksOfOtherEventsDoNotCount();
        amplitudeFromBeforeTheEvent();
        magnitudeOfAnEventNotFound();
        magnitudeOfNoEvent();
        Check.end();
    }

    // ---- setAmplitude

    /** "1 to 1000000000". */
    private static void leastAndGreatestAmplitude() {
        QuakeBench bench = Benches.found();
        bench.setAmplitude(0, 1);
        Check.due("magnitude(0) of 1", bench.magnitude(0), 3 + 5);
        bench.setAmplitude(0, 1000000000);
        Check.due("magnitude(0) of 1000000000", bench.magnitude(0), 90 + 5);
    }

    private static void amplitudeBeyond() {
        QuakeBench bench = Benches.found();
        for (int beyond : Check.beyond(1, 1000000000)) {
            Check.refused(bench, "setAmplitude(0, " + beyond + ")", Check.WRONG, () -> bench.setAmplitude(0, beyond));
        }
        Check.due("magnitude(0) after refused amplitudes", bench.magnitude(0), -1);
    }

    /** "0 if none was noted". */
    private static void amplitudeBeforeIsReturned() {
        QuakeBench bench = Benches.found();
        Check.due("setAmplitude(0, 1)", bench.setAmplitude(0, 1), 0);
        Check.due("setAmplitude(0, 1000000000)", bench.setAmplitude(0, 1000000000), 1);
        Check.due("setAmplitude(0, 2)", bench.setAmplitude(0, 2), 1000000000);
        Check.due("setAmplitude(0, 2) again", bench.setAmplitude(0, 2), 2);
    }

    private static void amplitudeIsOfItsPickAlone() {
        QuakeBench bench = Benches.found();
        bench.setAmplitude(1, 9);
        Check.due("setAmplitude(0, 3)", bench.setAmplitude(0, 3), 0);
        Check.due("setAmplitude(1, 3)", bench.setAmplitude(1, 3), 9);
    }

    private static void amplitudeOfNoPick() {
        QuakeBench bench = Benches.found();
        Check.due("setAmplitude(3, 1), the last pick", bench.setAmplitude(3, 1), 0);
        for (int beyond : Check.beyond(0, 3)) {
            Check.refused(bench, "setAmplitude(" + beyond + ", 1)", Check.OUTSIDE, () -> bench.setAmplitude(beyond, 1));
            Check.refused(bench, "setAmplitude(" + beyond + ", 0)", Check.OUTSIDE, () -> bench.setAmplitude(beyond, 0));
        }
    }

    private static void amplitudeLosesNoEvent() {
        QuakeBench bench = Benches.found();
        bench.setAmplitude(0, 1);
        Check.found(bench, 0, 100, 100, 0, 1000);
    }

    // ---- magnitude

    /** "-1 if no pick of it has an amplitude". */
    private static void magnitudeWithoutAmplitudes() {
        QuakeBench bench = Benches.found();
        Check.due("magnitude(0)", bench.magnitude(0), -1);
    }

    /** Each power of 2 and the number below it; the way of 50 km makes 5. */
    private static void binaryDigits() {
        QuakeBench bench = Benches.found();
        for (int digits = 1; digits <= 30; digits++) {
            bench.setAmplitude(0, 1 << digits - 1);
            Check.due("magnitude(0), the least of " + digits + " digits", bench.magnitude(0), 3 * digits + 5);
            int most = Math.min((int) ((1L << digits) - 1), 1000000000);
            bench.setAmplitude(0, most);
            Check.due("magnitude(0), the most of " + digits + " digits", bench.magnitude(0), 3 * digits + 5);
        }
    }

    /** "in metres, divided by 10000", cut towards 0. */
    private static void wayIsCut() {
        int[][] places = {{119, 100, 1}, {120, 100, 2}, {109, 100, 0}, {100, 90, 1}, {107, 107, 0}, {108, 108, 1}};
        QuakeBench bench = Benches.square();
        for (int[] place : places) {
            bench.addStation(place[0], place[1]);
        }
        Benches.quake(bench, 100, 100, 0, 1000);
        for (int k = 0; k < places.length; k++) {
            bench.setAmplitude(4 + k, 1);
            Check.due("magnitude(0), the station " + (4 + k), bench.magnitude(0), 3 + places[k][2]);
            // Without a way to take an amplitude back, the pick itself goes.
            bench.give(4 + k, -1);
            bench.seek(0);
            Check.found(bench, 0, 100, 100, 0, 1000);
        }
    }

    private static void wayJustBelowIsCut() {
        QuakeBench bench = Benches.squareWithCentre();
        bench.addStation(133, 197);
        Benches.quake(bench, 100, 100, 40, 1000);
        bench.setAmplitude(5, 1);
        Check.due("way(5, 100, 100, 40)", bench.way(5, 100, 100, 40), 109990);
        Check.due("magnitude(0), 109990 m away", bench.magnitude(0), 3 + 10);
    }

    private static void wayKnowsTheDepth() {
        QuakeBench bench = Benches.squareWithCentre();
        Benches.quake(bench, 100, 100, 60, 1000);
        bench.setAmplitude(4, 1);
        Check.due("magnitude(0), 60 km above", bench.magnitude(0), 3 + 6);
        bench.setAmplitude(4, 1000000000);
        bench.setAmplitude(0, 1);
        // The root of 50 * 50 + 60 * 60 is 78.1.
        Check.due("magnitude(0), 78 km away", bench.magnitude(0), 3 + 7);
    }

    private static void wayOfNought() {
        QuakeBench bench = Benches.squareWithCentre();
        Benches.quake(bench, 100, 100, 0, 1000);
        bench.setAmplitude(4, 1);
        Check.due("magnitude(0), the station at the place itself", bench.magnitude(0), 3);
    }

    /** "the middle of these numbers (as for starts, but each once)": of two the lesser one. */
    private static void middleOfOddAndEvenNumbers() {
        QuakeBench bench = Benches.found();
        bench.setAmplitude(3, 1 << 20);
        Check.due("magnitude(0) of 21 digits", bench.magnitude(0), 63 + 5);
        bench.setAmplitude(1, 1 << 10);
        Check.due("magnitude(0) of 11, 21 digits", bench.magnitude(0), 33 + 5);
        bench.setAmplitude(0, 1 << 15);
        Check.due("magnitude(0) of 11, 16, 21 digits", bench.magnitude(0), 48 + 5);
        bench.setAmplitude(2, 1 << 25);
        Check.due("magnitude(0) of 11, 16, 21, 26 digits", bench.magnitude(0), 48 + 5);
        bench.setAmplitude(1, 1 << 29);
        Check.due("magnitude(0) of 16, 21, 26, 30 digits", bench.magnitude(0), 63 + 5);
    }

    private static void weightsDoNotCount() {
        QuakeBench bench = Benches.found();
        bench.setWeight(1, 1);
        bench.setWeight(2, 1);
        bench.seek(0);
        Check.found(bench, 0, 100, 100, 0, 1000);
        bench.setAmplitude(0, 1);
        bench.setAmplitude(1, 1 << 10);
        bench.setAmplitude(2, 1 << 20);
        Check.due("magnitude(0), weights 4 1 1", bench.magnitude(0), 33 + 5);
    }

    private static void picksOfOtherEventsDoNotCount() {
        QuakeBench bench = Benches.found();
        Benches.quake(bench, 100, 120, 0, 50000);
        bench.addPick(0, true, 0);
        bench.setAmplitude(0, 1 << 10);
        bench.setAmplitude(7, 1);
        bench.setAmplitude(8, 1);
        Check.due("magnitude(0)", bench.magnitude(0), 33 + 5);
        // The station 3 is 30 km from there.
        Check.due("magnitude(1)", bench.magnitude(1), 3 + 3);
    }

    private static void amplitudeFromBeforeTheEvent() {
        QuakeBench bench = Benches.found();
        bench.addPick(2, true, 15417);
        bench.setAmplitude(4, 1 << 10);
        Check.due("magnitude(0) before", bench.magnitude(0), -1);
        Check.due("associate()", bench.associate(), 1);
        Check.due("magnitude(0) after", bench.magnitude(0), 33 + 5);
    }

    private static void magnitudeOfAnEventNotFound() {
        QuakeBench bench = Benches.found();
        bench.setAmplitude(0, 1);
        bench.setWeight(0, 4);
        Check.refused(bench, "magnitude(0)", Check.STATE, () -> bench.magnitude(0));
    }

    private static void magnitudeOfNoEvent() {
        QuakeBench bench = Benches.found();
        for (int beyond : Check.beyond(0, 0)) {
            Check.refused(bench, "magnitude(" + beyond + ")", Check.OUTSIDE, () -> bench.magnitude(beyond));
        }
    }
}
