/** Promises 23 to 25: families, family, nearest. */
public final class FamiliesTest {
    private FamiliesTest() {
    }

    public static void main(String[] args) {
        noFoundEvent();
        nearAtItsLimit();
        soonAtItsLimit();
        differencesWithoutSign();
        sumOfAllThreeDifferences();
        leastLimits();
        greatestLimits();
        greatestDifferenceOfTimes();
        byWayOfOthers();
        notByWayOfAnEventNotFound();
        bothLimitsTogether();
        twelveFamilies();
        limitsBeyond();
        familyOfAnEventNotFound();
        familyOfNoEvent();
        nearestOfNone();
        nearestKnowsAllThree();
        nearestByOne();
        nearestOfEqualOnes();
        nearestIsFound();
        nearestAtTheEdges();
        nearestToNoPlace();
        Check.end();
    }

    private static void families(QuakeBench bench, int near, int soon, int want) {
        Check.due("families(" + near + ", " + soon + ")", bench.families(near, soon), want);
    }

    private static void family(QuakeBench bench, int event, int near, int soon, int want) {
        String call = "family(" + event + ", " + near + ", " + soon + ")";
        Check.due(call, bench.family(event, near, soon), want);
    }

    /** Event 0 at (100, 100, 0) and 1000, event 1 at (100, 120, 0) and 4000. */
    private static QuakeBench two() {
        QuakeBench bench = Benches.found();
        Benches.quake(bench, 100, 120, 0, 4000);
        return bench;
    }

    // ---- families and family

    private static void noFoundEvent() {
        QuakeBench bench = Benches.square();
        bench.addEvent();
        bench.addEvent();
        families(bench, 0, 0, 0);
        families(bench, 500, 10000000, 0);
    }

    /** "at most near". */
    private static void nearAtItsLimit() {
        QuakeBench bench = two();
        families(bench, 20, 10000000, 1);
        families(bench, 19, 10000000, 2);
        family(bench, 0, 20, 10000000, 2);
        family(bench, 1, 20, 10000000, 2);
        family(bench, 0, 19, 10000000, 1);
        family(bench, 1, 19, 10000000, 1);
    }

    /** "at most soon", without sign. */
    private static void soonAtItsLimit() {
        QuakeBench bench = two();
        families(bench, 500, 3000, 1);
        families(bench, 500, 2999, 2);
        family(bench, 0, 500, 3000, 2);
        family(bench, 1, 500, 3000, 2);
        family(bench, 0, 500, 2999, 1);
        family(bench, 1, 500, 2999, 1);
    }

    /** "the difference of their times (without sign)", and of their places: the later number may be the lesser one. */
    private static void differencesWithoutSign() {
        QuakeBench bench = Benches.squareWithCentre();
        Benches.quake(bench, 120, 120, 60, 9000);
        Benches.quake(bench, 100, 100, 40, 1000);
        families(bench, 60, 8000, 1);
        families(bench, 60, 7999, 2);
        families(bench, 59, 8000, 2);
        Benches.quake(bench, 120, 120, 60, 17000);
        families(bench, 60, 8000, 1);
        families(bench, 60, 7999, 3);
        families(bench, 59, 8000, 2);
    }

    private static void sumOfAllThreeDifferences() {
        QuakeBench bench = Benches.squareWithCentre();
        Benches.quake(bench, 100, 100, 40, 1000);
        Benches.quake(bench, 120, 80, 20, 1000);
        families(bench, 59, 0, 2);
        families(bench, 60, 0, 1);
        Benches.quake(bench, 140, 100, 60, 1000);
        // 100 and 100 and 60 from both: 40 + 0 + 20 and 20 + 20 + 40.
        family(bench, 2, 59, 0, 1);
        family(bench, 2, 60, 0, 3);
        families(bench, 79, 0, 1);
    }

    /** "near is not 0 to 500, or soon is not 0 to 10000000": 0 and 0 relate what is alike. */
    private static void leastLimits() {
        QuakeBench bench = Benches.found();
        Benches.quake(bench, 100, 100, 0, 1000);
        Benches.quake(bench, 100, 100, 0, 1001);
        families(bench, 0, 0, 2);
        families(bench, 0, 1, 1);
        family(bench, 0, 0, 0, 2);
        family(bench, 2, 0, 0, 1);
    }

    private static void greatestLimits() {
        QuakeBench bench = two();
        families(bench, 500, 10000000, 1);
        family(bench, 1, 500, 10000000, 2);
        families(bench, 500, 0, 2);
        families(bench, 0, 10000000, 2);
    }

    /** The times of events may differ by more than the greatest soon. */
    private static void greatestDifferenceOfTimes() {
        QuakeBench bench = Benches.square();
        for (int station = 4; station < 10; station++) {
            bench.addStation(0, 0);
            bench.setDelay(station, station < 7 ? 0 : -1);
        }
        for (int event = 0; event < 3; event++) {
            bench.addEvent();
        }
        for (int k = 0; k < 3; k++) {
            bench.give(bench.addPick(4 + k, false, 0), 0);
            bench.give(bench.addPick(4 + k, false, 10000000), 1);
            bench.give(bench.addPick(7 + k, false, 10000000), 2);
        }
        int[] times = {0, 10000000, 10000001};
        for (int event = 0; event < 3; event++) {
            bench.seek(event);
            Check.found(bench, event, 0, 0, 0, times[event]);
        }
        family(bench, 0, 0, 9999999, 1);
        family(bench, 0, 0, 10000000, 3);
        bench.give(1, -1);
        families(bench, 500, 10000000, 2);
        family(bench, 2, 500, 10000000, 1);
    }

    /** "perhaps by way of others of it". */
    private static void byWayOfOthers() {
        QuakeBench bench = Benches.square();
        Benches.quake(bench, 100, 100, 0, 1000);
        Benches.quake(bench, 100, 140, 0, 1000);
        Benches.quake(bench, 120, 100, 0, 1000);
        Benches.quake(bench, 100, 120, 0, 1000);
        // 2 is 20 from 0, 3 is 20 from 0 and from 1, and no two others are nearer than 40.
        families(bench, 19, 0, 4);
        families(bench, 20, 0, 1);
        for (int event = 0; event < 4; event++) {
            family(bench, event, 19, 0, 1);
            family(bench, event, 20, 0, 4);
        }
    }

    /** The one in the middle is lost, whether its number is the least, the middle or the greatest one. */
    private static void notByWayOfAnEventNotFound() {
        int[][] rows = {{120, 100, 140}, {100, 120, 140}, {100, 140, 120}};
        for (int lost = 0; lost < 3; lost++) {
            QuakeBench bench = Benches.square();
            for (int y : rows[lost]) {
                Benches.quake(bench, 100, y, 0, 1000);
            }
            int first = lost == 0 ? 1 : 0;
            int last = lost == 2 ? 1 : 2;
            family(bench, first, 20, 0, 3);
            bench.setWeight(4 * lost, 4);
            families(bench, 20, 0, 2);
            family(bench, first, 20, 0, 1);
            family(bench, last, 20, 0, 1);
            families(bench, 40, 0, 1);
            family(bench, last, 40, 0, 2);
        }
    }

    private static void bothLimitsTogether() {
        QuakeBench bench = two();
        families(bench, 20, 3000, 1);
        families(bench, 20, 2999, 2);
        families(bench, 19, 3000, 2);
        family(bench, 0, 20, 2999, 1);
        family(bench, 0, 19, 3000, 1);
    }

    /** As many events as there may be, in twelve families and in one. */
    private static void twelveFamilies() {
        QuakeBench bench = Benches.square();
        for (int k = 0; k < 12; k++) {
            Benches.quake(bench, 100, 100, 0, 100000 * k);
        }
        families(bench, 0, 99999, 12);
        families(bench, 0, 100000, 1);
        family(bench, 11, 0, 99999, 1);
        family(bench, 11, 0, 100000, 12);
        family(bench, 0, 0, 100000, 12);
    }

    private static void limitsBeyond() {
        QuakeBench bench = two();
        bench.addEvent();
        for (int beyond : Check.beyond(0, 500)) {
            Check.refused(bench, "families(" + beyond + ", 0)", Check.WRONG, () -> bench.families(beyond, 0));
            Check.refused(bench, "family(0, " + beyond + ", 0)", Check.WRONG, () -> bench.family(0, beyond, 0));
            Check.refused(bench, "family(2, " + beyond + ", 0)", Check.WRONG, () -> bench.family(2, beyond, 0));
        }
        for (int beyond : Check.beyond(0, 10000000)) {
            Check.refused(bench, "families(0, " + beyond + ")", Check.WRONG, () -> bench.families(0, beyond));
            Check.refused(bench, "family(0, 0, " + beyond + ")", Check.WRONG, () -> bench.family(0, 0, beyond));
            Check.refused(bench, "family(2, 0, " + beyond + ")", Check.WRONG, () -> bench.family(2, 0, beyond));
        }
    }

    private static void familyOfAnEventNotFound() {
        QuakeBench bench = two();
        bench.addEvent();
        bench.setWeight(0, 4);
        Check.refused(bench, "family(0, 0, 0)", Check.STATE, () -> bench.family(0, 0, 0));
        Check.refused(bench, "family(2, 500, 0)", Check.STATE, () -> bench.family(2, 500, 0));
        family(bench, 1, 500, 10000000, 1);
    }

    private static void familyOfNoEvent() {
        QuakeBench bench = two();
        for (int beyond : Check.beyond(0, 1)) {
            Check.refused(bench, "family(" + beyond + ", 0, 0)", Check.OUTSIDE, () -> bench.family(beyond, 0, 0));
            Check.refused(bench, "family(" + beyond + ", 501, 0)", Check.OUTSIDE, () -> bench.family(beyond, 501, 0));
        }
    }

    // ---- nearest

    private static void nearest(QuakeBench bench, int x, int y, int z, int want) {
        Check.due("nearest(" + x + ", " + y + ", " + z + ")", bench.nearest(x, y, z), want);
    }

    /** "-1 if none is found". */
    private static void nearestOfNone() {
        QuakeBench bench = Benches.square();
        bench.addEvent();
        nearest(bench, 0, 0, 0, -1);
    }

    private static void nearestKnowsAllThree() {
        QuakeBench bench = Benches.squareWithCentre();
        Benches.quake(bench, 100, 100, 0, 1000);
        Benches.quake(bench, 120, 100, 0, 1000);
        Benches.quake(bench, 100, 120, 0, 1000);
        Benches.quake(bench, 100, 100, 40, 1000);
        nearest(bench, 110, 100, 0, 0);
        nearest(bench, 111, 100, 0, 1);
        nearest(bench, 100, 110, 0, 0);
        nearest(bench, 100, 111, 0, 2);
        nearest(bench, 100, 100, 20, 0);
        nearest(bench, 100, 100, 21, 3);
        nearest(bench, 0, 0, 60, 3);
        nearest(bench, 200, 100, 0, 1);
    }

    /** A sum less by 1 km is less, whichever event comes first. */
    private static void nearestByOne() {
        QuakeBench bench = Benches.squareWithCentre();
        Benches.quake(bench, 100, 100, 0, 1000);
        Benches.quake(bench, 100, 100, 15, 1000);
        nearest(bench, 100, 100, 7, 0);
        nearest(bench, 100, 100, 8, 1);
    }

    /** "of several the one with the smallest number". */
    private static void nearestOfEqualOnes() {
        QuakeBench bench = Benches.square();
        Benches.quake(bench, 100, 120, 0, 1000);
        Benches.quake(bench, 100, 100, 0, 1000);
        Benches.quake(bench, 100, 100, 0, 1000);
        nearest(bench, 100, 110, 5, 0);
        nearest(bench, 100, 109, 5, 1);
        nearest(bench, 100, 100, 0, 1);
    }

    private static void nearestIsFound() {
        QuakeBench bench = two();
        nearest(bench, 100, 100, 0, 0);
        bench.setWeight(0, 4);
        nearest(bench, 100, 100, 0, 1);
        bench.setWeight(4, 4);
        nearest(bench, 100, 100, 0, -1);
    }

    private static void nearestAtTheEdges() {
        QuakeBench bench = Benches.found();
        int[][] edges = {{0, 0, 0}, {200, 0, 0}, {0, 200, 0}, {0, 0, 60}, {200, 200, 60}};
        for (int[] p : edges) {
            nearest(bench, p[0], p[1], p[2], 0);
        }
    }

    private static void nearestToNoPlace() {
        QuakeBench found = Benches.found();
        QuakeBench none = new QuakeBench();
        for (QuakeBench bench : new QuakeBench[] {found, none}) {
            for (int beyond : Check.beyond(0, 200)) {
                Check.refused(bench, "nearest, x " + beyond, Check.WRONG, () -> bench.nearest(beyond, 0, 0));
                Check.refused(bench, "nearest, y " + beyond, Check.WRONG, () -> bench.nearest(0, beyond, 0));
            }
            for (int beyond : Check.beyond(0, 60)) {
                Check.refused(bench, "nearest, z " + beyond, Check.WRONG, () -> bench.nearest(0, 0, beyond));
            }
        }
    }
}
