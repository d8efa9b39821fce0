/** Promises 1 to 6: a new object, addStation, setDelay, setSpeeds, way, needs. */
public final class StationsAndWavesTest {
    private StationsAndWavesTest() {
    }

    public static void main(String[] args) {
        newObject();
        addStation();
        setDelay();
        setSpeeds();
        way();
        needs();
        Check.end();
    }

    private static void newObject() {
        QuakeBench bench = new QuakeBench();
        for (int what = 0; what <= 4; what++) {
            Check.due("count(" + what + ") of a new bench", bench.count(what), 0);
        }
        long d = 337;
        for (int x : new int[] {0, 0, 0, 0, 0, 6000, 3468}) {
            d = d * 31 + x;
        }
        Check.due("digest() of a new bench", bench.digest(), d);
        Check.due("setSpeeds(6000, 173)", bench.setSpeeds(6000, 173), 3468);
        Check.due("digest() with the first speeds set again", bench.digest(), d);
        Check.refused(bench, "way(0, 0, 0, 0)", Check.OUTSIDE, () -> bench.way(0, 0, 0, 0));
        QuakeBench other = new QuakeBench();
        other.addStation(1, 2);
        Check.due("count(0) beside another bench", bench.count(0), 0);
    }

    private static void addStation() {
        QuakeBench bench = new QuakeBench();
        Check.refused(bench, "addStation(-1, 0)", Check.WRONG, () -> bench.addStation(-1, 0));
        Check.refused(bench, "addStation(0, -1)", Check.WRONG, () -> bench.addStation(0, -1));
        Check.refused(bench, "addStation(201, 0)", Check.WRONG, () -> bench.addStation(201, 0));
        Check.refused(bench, "addStation(0, 201)", Check.WRONG, () -> bench.addStation(0, 201));
        for (int k = 0; k < 10; k++) {
            Check.due("addStation", bench.addStation(k % 2 * 200, k % 3 * 100), k);
        }
        Check.due("setDelay(9, 0)", bench.setDelay(9, 0), 0);
        Check.due("way(5, 200, 200, 0)", bench.way(5, 200, 200, 0), 0);
        Check.refused(bench, "addStation(0, 0), the 11th", Check.STATE, () -> bench.addStation(0, 0));
        Check.refused(bench, "addStation(201, 0), the 11th", Check.WRONG, () -> bench.addStation(201, 0));
        Check.due("count(0)", bench.count(0), 10);
    }

    private static void setDelay() {
        QuakeBench bench = new QuakeBench();
        Check.refused(bench, "setDelay(0, 0) without stations", Check.OUTSIDE, () -> bench.setDelay(0, 0));
        bench.addStation(0, 0);
        Check.due("setDelay(0, 2000)", bench.setDelay(0, 2000), 0);
        Check.due("setDelay(0, -2000)", bench.setDelay(0, -2000), 2000);
        Check.refused(bench, "setDelay(0, -2001)", Check.WRONG, () -> bench.setDelay(0, -2001));
        Check.refused(bench, "setDelay(0, 2001)", Check.WRONG, () -> bench.setDelay(0, 2001));
        Check.refused(bench, "setDelay(-1, 2001)", Check.OUTSIDE, () -> bench.setDelay(-1, 2001));
        Check.refused(bench, "setDelay(1, 0)", Check.OUTSIDE, () -> bench.setDelay(1, 0));
        Check.due("setDelay(0, 1)", bench.setDelay(0, 1), -2000);
    }

    private static void setSpeeds() {
        QuakeBench bench = new QuakeBench();
        Check.due("setSpeeds(3000, 200)", bench.setSpeeds(3000, 200), 1500);
        Check.due("setSpeeds(9000, 150)", bench.setSpeeds(9000, 150), 6000);
        Check.due("setSpeeds(5999, 199)", bench.setSpeeds(5999, 199), 3014);
        Check.refused(bench, "setSpeeds(2999, 173)", Check.WRONG, () -> bench.setSpeeds(2999, 173));
        Check.refused(bench, "setSpeeds(9001, 173)", Check.WRONG, () -> bench.setSpeeds(9001, 173));
        Check.refused(bench, "setSpeeds(6000, 149)", Check.WRONG, () -> bench.setSpeeds(6000, 149));
        Check.refused(bench, "setSpeeds(6000, 201)", Check.WRONG, () -> bench.setSpeeds(6000, 201));
        Check.refused(bench, "setSpeeds(6000, 0)", Check.WRONG, () -> bench.setSpeeds(6000, 0));
    }

    private static void way() {
        QuakeBench bench = new QuakeBench();
        bench.addStation(0, 0);
        bench.addStation(200, 200);
        bench.setDelay(0, 700);
        Check.due("way(0, 0, 0, 0)", bench.way(0, 0, 0, 0), 0);
        Check.due("way(0, 3, 4, 12)", bench.way(0, 3, 4, 12), 13000);
        Check.due("way(0, 1, 1, 0)", bench.way(0, 1, 1, 0), 1414);
        Check.due("way(1, 0, 0, 60)", bench.way(1, 0, 0, 60), 289136);
        Check.due("way(1, 199, 200, 60)", bench.way(1, 199, 200, 60), 60008);
        Check.refused(bench, "way(-1, 0, 0, 0)", Check.OUTSIDE, () -> bench.way(-1, 0, 0, 0));
        Check.refused(bench, "way(2, 0, 0, 61)", Check.OUTSIDE, () -> bench.way(2, 0, 0, 61));
        noPlaces(bench);
        everyWayIsTheGreatestRoot(bench);
    }

    private static void noPlaces(QuakeBench bench) {
        int[][] wrong = {{-1, 0, 0}, {201, 0, 0}, {0, -1, 0}, {0, 201, 0}, {0, 0, -1}, {0, 0, 61}};
        bench.addEvent();
        for (int[] p : wrong) {
            String at = p[0] + ", " + p[1] + ", " + p[2] + ")";
            Check.refused(bench, "way(0, " + at, Check.WRONG, () -> bench.way(0, p[0], p[1], p[2]));
            Check.refused(bench, "needs(0, " + at, Check.WRONG, () -> bench.needs(0, p[0], p[1], p[2], true));
            Check.refused(bench, "misfit(0, " + at, Check.WRONG, () -> bench.misfit(0, p[0], p[1], p[2]));
            Check.refused(bench, "nearest(" + at, Check.WRONG, () -> bench.nearest(p[0], p[1], p[2]));
        }
    }

    private static void everyWayIsTheGreatestRoot(QuakeBench bench) {
        for (int x = 0; x <= 200; x += 3) {
            for (int y = 0; y <= 200; y += 7) {
                for (int z = 0; z <= 60; z += 4) {
                    long square = 1000000L * (x * x + y * y + z * z);
                    long root = bench.way(0, x, y, z);
                    if (root * root > square || (root + 1) * (root + 1) <= square) {
                        Check.tell("way(0, " + x + ", " + y + ", " + z + ") answered " + root);
                    }
                }
            }
        }
    }

    private static void needs() {
        QuakeBench bench = new QuakeBench();
        bench.addStation(0, 0);
        Check.due("needs(0, 60, 0, 0, false)", bench.needs(0, 60, 0, 0, false), 10000);
        Check.due("needs(0, 60, 0, 0, true)", bench.needs(0, 60, 0, 0, true), 17301);
        Check.due("needs(0, 1, 1, 1, false)", bench.needs(0, 1, 1, 1, false), 288);
        bench.setDelay(0, -2000);
        // The delay comes after the cut towards 0: 288 - 2000, and not the cut of -1711.3.
        Check.due("needs(0, 1, 1, 1, false) with a delay", bench.needs(0, 1, 1, 1, false), -1712);
        Check.due("needs(0, 0, 0, 0, true) with a delay", bench.needs(0, 0, 0, 0, true), -2000);
        bench.setSpeeds(3000, 200);
        Check.due("needs(0, 200, 200, 60, true)", bench.needs(0, 200, 200, 60, true), 192757 - 2000);
        Check.due("needs(0, 200, 200, 60, false)", bench.needs(0, 200, 200, 60, false), 96378 - 2000);
        Check.refused(bench, "needs(1, 0, 0, 61, true)", Check.OUTSIDE, () -> bench.needs(1, 0, 0, 61, true));
        Check.refused(bench, "needs(-1, 0, 0, 0, true)", Check.OUTSIDE, () -> bench.needs(-1, 0, 0, 0, true));
    }
}
