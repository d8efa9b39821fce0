/** Promises 5 and 6: way and needs. */
public final class WavesTest {
    private static final int[][] NO_PLACES = {
        {-1, 0, 0}, {201, 0, 0}, {Integer.MIN_VALUE, 0, 0}, {Integer.MAX_VALUE, 0, 0},
        {0, -1, 0}, {0, 201, 0}, {0, Integer.MIN_VALUE, 0}, {0, Integer.MAX_VALUE, 0},
        {0, 0, -1}, {0, 0, 61}, {0, 0, Integer.MIN_VALUE}, {0, 0, Integer.MAX_VALUE},
    };

    private WavesTest() {
    }

    public static void main(String[] args) {
        noWayAtAll();
        wayAlongEachAxis();
        wayIsCut();
        wayOneSquareMetreBelowTheNext();
        greatestWay();
        everyWayIsTheGreatestRoot();
        wayKnowsNoDelayAndNoSpeed();
        wayToNoPlace();
        wayOfNoStation();
        needsForEachWave();
        needsIsCutTowardsNought();
        delayComesAfterTheCut();
        leastNeeds();
        greatestNeeds();
        needsFromNoPlace();
        needsOfNoStation();
        Check.end();
    }

    private static QuakeBench corners() {
        QuakeBench bench = new QuakeBench();
        bench.addStation(0, 0);
        bench.addStation(200, 200);
        return bench;
    }

    // ---- way

    private static void noWayAtAll() {
        QuakeBench bench = corners();
        Check.due("way(0, 0, 0, 0)", bench.way(0, 0, 0, 0), 0);
        Check.due("way(1, 200, 200, 0)", bench.way(1, 200, 200, 0), 0);
    }

    private static void wayAlongEachAxis() {
        QuakeBench bench = corners();
        Check.due("way(0, 200, 0, 0)", bench.way(0, 200, 0, 0), 200000);
        Check.due("way(0, 0, 200, 0)", bench.way(0, 0, 200, 0), 200000);
        Check.due("way(0, 0, 0, 60)", bench.way(0, 0, 0, 60), 60000);
        Check.due("way(1, 0, 200, 0), towards the less", bench.way(1, 0, 200, 0), 200000);
        Check.due("way(1, 200, 0, 0), towards the less", bench.way(1, 200, 0, 0), 200000);
        Check.due("way(0, 3, 4, 12)", bench.way(0, 3, 4, 12), 13000);
        Check.due("way(1, 197, 196, 12)", bench.way(1, 197, 196, 12), 13000);
    }

    /** "the greatest whole number of metres whose square is at most the sum". */
    private static void wayIsCut() {
        QuakeBench bench = corners();
        // The roots are 1414.21, 1732.05 and 60008.33.
        Check.due("way(0, 1, 1, 0)", bench.way(0, 1, 1, 0), 1414);
        Check.due("way(0, 1, 1, 1)", bench.way(0, 1, 1, 1), 1732);
        Check.due("way(1, 199, 200, 60)", bench.way(1, 199, 200, 60), 60008);
        // The root of 2 * 70 * 70 is 98.99494.. km: the next whole number of metres is nearer, and too great.
        Check.due("way(0, 70, 70, 0)", bench.way(0, 70, 70, 0), 98994);
    }

    /** 90 * 90 + 194 * 194 + 46 * 46 is 47852, as for the others; 218751 * 218751 is 47852000001. */
    private static void wayOneSquareMetreBelowTheNext() {
        QuakeBench bench = corners();
        int[][] places = {{90, 194, 46}, {94, 190, 54}, {110, 186, 34}, {130, 174, 26}, {142, 162, 38}};
        for (int[] p : places) {
            Check.due("way to " + p[0] + ", " + p[1] + ", " + p[2], bench.way(0, p[0], p[1], p[2]), 218750);
            Check.due("way to " + p[1] + ", " + p[0] + ", " + p[2], bench.way(0, p[1], p[0], p[2]), 218750);
        }
    }

    private static void greatestWay() {
        QuakeBench bench = corners();
        Check.due("way(1, 0, 0, 60)", bench.way(1, 0, 0, 60), 289136);
        Check.due("way(0, 200, 200, 60)", bench.way(0, 200, 200, 60), 289136);
    }

    private static void everyWayIsTheGreatestRoot() {
        for (int x = 0; x <= 200; x += 3) {
            // A bench is used for at most 512 calls.
            QuakeBench bench = corners();
            for (int y = 0; y <= 200; y += 7) {
                for (int z = 0; z <= 60; z += 4) {
                    long square = 1000000L * (x * x + y * y + z * z);
                    long root = bench.way(0, x, y, z);
                    if (root * root > square || (root + 1) * (root + 1) <= square) {
                        Check.tell("way(0, " + x + ", " + y + ", " + z + ") answered " + root);
                    }
                }
            }
        }
    }

    private static void wayKnowsNoDelayAndNoSpeed() {
        QuakeBench bench = corners();
        bench.setDelay(0, 2000);
        bench.setSpeeds(3000, 200);
        Check.due("way(0, 3, 4, 12)", bench.way(0, 3, 4, 12), 13000);
    }

    private static void wayToNoPlace() {
        QuakeBench bench = corners();
        for (int[] p : NO_PLACES) {
            String call = "way(0, " + p[0] + ", " + p[1] + ", " + p[2] + ")";
            Check.refused(bench, call, Check.WRONG, () -> bench.way(0, p[0], p[1], p[2]));
        }
    }

    private static void wayOfNoStation() {
        QuakeBench bench = corners();
        for (int beyond : Check.beyond(0, 1)) {
            Check.refused(bench, "way(" + beyond + ", 0, 0, 0)", Check.OUTSIDE, () -> bench.way(beyond, 0, 0, 0));
            Check.refused(bench, "way(" + beyond + ", 0, 0, 61)", Check.OUTSIDE, () -> bench.way(beyond, 0, 0, 61));
        }
    }

    // ---- needs

    private static void needsForEachWave() {
        QuakeBench bench = corners();
        Check.due("needs(0, 60, 0, 0, false)", bench.needs(0, 60, 0, 0, false), 10000);
        Check.due("needs(1, 140, 200, 0, false)", bench.needs(1, 140, 200, 0, false), 10000);
        // 60000000 / 3468 is 17301.03.
        Check.due("needs(0, 60, 0, 0, true)", bench.needs(0, 60, 0, 0, true), 17301);
    }

    private static void needsIsCutTowardsNought() {
        QuakeBench bench = corners();
        // 1732000 / 6000 is 288.67, 1732000 / 3468 is 499.42, 5000000 / 6000 is 833.33.
        Check.due("needs(0, 1, 1, 1, false)", bench.needs(0, 1, 1, 1, false), 288);
        Check.due("needs(0, 1, 1, 1, true)", bench.needs(0, 1, 1, 1, true), 499);
        Check.due("needs(0, 5, 0, 0, false)", bench.needs(0, 5, 0, 0, false), 833);
    }

    private static void delayComesAfterTheCut() {
        QuakeBench bench = corners();
        bench.setDelay(0, -2000);
        // 288 - 2000, and not the cut of -1711.3.
        Check.due("needs(0, 1, 1, 1, false)", bench.needs(0, 1, 1, 1, false), -1712);
        Check.due("needs(1, 199, 199, 1, false), another's delay", bench.needs(1, 199, 199, 1, false), 288);
    }

    private static void leastNeeds() {
        QuakeBench bench = corners();
        Check.due("needs(0, 0, 0, 0, false)", bench.needs(0, 0, 0, 0, false), 0);
        bench.setDelay(0, -2000);
        Check.due("needs(0, 0, 0, 0, false), the least delay", bench.needs(0, 0, 0, 0, false), -2000);
        Check.due("needs(0, 0, 0, 0, true), the least delay", bench.needs(0, 0, 0, 0, true), -2000);
    }

    private static void greatestNeeds() {
        QuakeBench bench = corners();
        bench.setDelay(0, 2000);
        bench.setSpeeds(3000, 200);
        // 289136000 / 1500 is 192757.33, 289136000 / 3000 is 96378.67.
        Check.due("needs(0, 200, 200, 60, true)", bench.needs(0, 200, 200, 60, true), 194757);
        Check.due("needs(0, 200, 200, 60, false)", bench.needs(0, 200, 200, 60, false), 98378);
    }

    private static void needsFromNoPlace() {
        QuakeBench bench = corners();
        for (int[] p : NO_PLACES) {
            String call = "needs(1, " + p[0] + ", " + p[1] + ", " + p[2] + ", true)";
            Check.refused(bench, call, Check.WRONG, () -> bench.needs(1, p[0], p[1], p[2], true));
        }
    }

    private static void needsOfNoStation() {
        QuakeBench bench = corners();
        for (int beyond : Check.beyond(0, 1)) {
            String call = "needs(" + beyond + ", ";
            Check.refused(bench, call + "0, 0, 0, false)", Check.OUTSIDE, () -> bench.needs(beyond, 0, 0, 0, false));
            Check.refused(bench, call + "0, -1, 0, true)", Check.OUTSIDE, () -> bench.needs(beyond, 0, -1, 0, true));
        }
    }
}
