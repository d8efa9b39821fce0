/** Promises 21 to 26: setAmplitude, magnitude, families, family, nearest, digest. */
public final class MagnitudesAndFamiliesTest {
    private MagnitudesAndFamiliesTest() {
    }

    public static void main(String[] args) {
        setAmplitude();
        magnitude();
        magnitudeTellsTheWay();
        families();
        familiesByWayOfOthers();
        nearest();
        digest();
        Check.end();
    }

    /** Adds an event with picks that fit (x, y, 0) at this time to the letter, and seeks it. */
    private static int quake(QuakeBench bench, int x, int y, int time) {
        int event = bench.addEvent();
        for (int station = 0; station < bench.count(0); station++) {
            int pick = bench.addPick(station, false, time + bench.needs(station, x, y, 0, false));
            bench.give(pick, event);
        }
        Check.due("seek(" + event + ")", bench.seek(event), 0);
        Check.due("event(" + event + ", 0)", bench.event(event, 0), x);
        Check.due("event(" + event + ", 1)", bench.event(event, 1), y);
        Check.due("event(" + event + ", 2)", bench.event(event, 2), 0);
        Check.due("event(" + event + ", 3)", bench.event(event, 3), time);
        return event;
    }

    private static void setAmplitude() {
        QuakeBench bench = Benches.square();
        Check.refused(bench, "setAmplitude(0, 1)", Check.OUTSIDE, () -> bench.setAmplitude(0, 1));
        bench.addPick(0, false, 0);
        Check.due("setAmplitude(0, 1)", bench.setAmplitude(0, 1), 0);
        Check.due("setAmplitude(0, 1000000000)", bench.setAmplitude(0, 1000000000), 1);
        Check.refused(bench, "setAmplitude(0, 0)", Check.WRONG, () -> bench.setAmplitude(0, 0));
        Check.refused(bench, "setAmplitude(0, 1000000001)", Check.WRONG, () -> bench.setAmplitude(0, 1000000001));
        Check.refused(bench, "setAmplitude(1, 0)", Check.OUTSIDE, () -> bench.setAmplitude(1, 0));
        Check.refused(bench, "setAmplitude(-1, 0)", Check.OUTSIDE, () -> bench.setAmplitude(-1, 0));
        Check.due("setAmplitude(0, 2)", bench.setAmplitude(0, 2), 1000000000);
    }

    private static void magnitude() {
        QuakeBench bench = Benches.square();
        quake(bench, 100, 100, 1000);
        Check.due("magnitude(0) without amplitudes", bench.magnitude(0), -1);
        // Each station is 50 km away, which makes 5.
        bench.setAmplitude(0, 1);
        Check.due("magnitude(0) of 1", bench.magnitude(0), 3 + 5);
        bench.setAmplitude(1, 1000000000);
        Check.due("magnitude(0) of 1, 30 digits", bench.magnitude(0), 3 + 5);
        bench.setAmplitude(2, 1024);
        Check.due("magnitude(0) of 1, 11, 30 digits", bench.magnitude(0), 33 + 5);
        bench.setAmplitude(2, 1023);
        Check.due("magnitude(0) of 1, 10, 30 digits", bench.magnitude(0), 30 + 5);
        bench.setAmplitude(0, 1000000000);
        bench.setAmplitude(2, 1000000000);
        Check.due("magnitude(0) of 30 digits", bench.magnitude(0), 90 + 5);
        Check.refused(bench, "magnitude(1)", Check.OUTSIDE, () -> bench.magnitude(1));
        Check.refused(bench, "magnitude(-1)", Check.OUTSIDE, () -> bench.magnitude(-1));
        bench.setWeight(0, 1);
        Check.refused(bench, "magnitude(0) not found", Check.STATE, () -> bench.magnitude(0));
        bench.setAmplitude(0, 4);
        bench.seek(0);
        // 4 has 3 digits; weights do not count: of 14, 95 and 95 the middle is 95.
        Check.due("magnitude(0) without weights", bench.magnitude(0), 95);
    }

    private static void magnitudeTellsTheWay() {
        QuakeBench bench = Benches.square();
        bench.addStation(119, 100);
        bench.addStation(100, 120);
        quake(bench, 100, 100, 1000);
        bench.setAmplitude(4, 1);
        Check.due("magnitude(0), 19 km away", bench.magnitude(0), 3 + 1);
        bench.setAmplitude(4, 2);
        bench.setAmplitude(5, 2);
        Check.due("magnitude(0), 19 and 20 km away", bench.magnitude(0), 6 + 1);
        bench.setAmplitude(4, 4);
        Check.due("magnitude(0), 20 and 19 km away", bench.magnitude(0), 6 + 2);
    }

    private static void limits(QuakeBench bench) {
        int[][] wrong = {{-1, 0}, {501, 0}, {0, -1}, {0, 10000001}};
        for (int[] p : wrong) {
            String at = p[0] + ", " + p[1] + ")";
            Check.refused(bench, "families(" + at, Check.WRONG, () -> bench.families(p[0], p[1]));
            Check.refused(bench, "family(0, " + at, Check.WRONG, () -> bench.family(0, p[0], p[1]));
            Check.refused(bench, "family(2, " + at, Check.WRONG, () -> bench.family(2, p[0], p[1]));
            Check.refused(bench, "family(3, " + at, Check.OUTSIDE, () -> bench.family(3, p[0], p[1]));
        }
        Check.refused(bench, "family(-1, 0, 0)", Check.OUTSIDE, () -> bench.family(-1, 0, 0));
        Check.refused(bench, "family(2, 0, 0) not found", Check.STATE, () -> bench.family(2, 0, 0));
    }

    private static void families() {
        QuakeBench bench = Benches.square();
        Check.due("families(500, 10000000) of none", bench.families(500, 10000000), 0);
        quake(bench, 100, 100, 1000);
        quake(bench, 100, 120, 4000);
        bench.addEvent();
        Check.due("families(0, 0)", bench.families(0, 0), 2);
        Check.due("families(20, 3000)", bench.families(20, 3000), 1);
        Check.due("families(19, 3000)", bench.families(19, 3000), 2);
        Check.due("families(20, 2999)", bench.families(20, 2999), 2);
        Check.due("families(500, 10000000)", bench.families(500, 10000000), 1);
        Check.due("family(1, 20, 3000)", bench.family(1, 20, 3000), 2);
        Check.due("family(1, 19, 3000)", bench.family(1, 19, 3000), 1);
        Check.due("family(0, 20, 2999)", bench.family(0, 20, 2999), 1);
        limits(bench);
    }

    private static void familiesByWayOfOthers() {
        QuakeBench bench = Benches.square();
        quake(bench, 100, 100, 1000);
        quake(bench, 100, 140, 1000);
        quake(bench, 120, 100, 1000);
        quake(bench, 100, 120, 1000);
        // 2 is 20 from 0, 3 is 20 from 0 and from 1, and no two others are nearer than 40.
        Check.due("families(19, 0)", bench.families(19, 0), 4);
        Check.due("families(20, 0)", bench.families(20, 0), 1);
        Check.due("family(1, 20, 0)", bench.family(1, 20, 0), 4);
        bench.setWeight(0, 4);
        Check.due("families(20, 0) without 0", bench.families(20, 0), 2);
        Check.due("family(1, 20, 0) without 0", bench.family(1, 20, 0), 2);
        Check.due("family(2, 20, 0) without 0", bench.family(2, 20, 0), 1);
    }

    private static void nearest() {
        QuakeBench bench = Benches.square();
        bench.addEvent();
        Check.due("nearest(1, 2, 3) of none", bench.nearest(1, 2, 3), -1);
        quake(bench, 100, 100, 1000);
        quake(bench, 100, 120, 4000);
        Check.due("nearest(0, 110, 60)", bench.nearest(0, 110, 60), 1);
        Check.due("nearest(0, 111, 60)", bench.nearest(0, 111, 60), 2);
        Check.due("nearest(200, 109, 0)", bench.nearest(200, 109, 0), 1);
        quake(bench, 120, 100, 4000);
        Check.due("nearest(112, 101, 7)", bench.nearest(112, 101, 7), 3);
        Check.due("nearest(108, 101, 7)", bench.nearest(108, 101, 7), 1);
        bench.setWeight(0, 4);
        Check.due("nearest(100, 100, 0)", bench.nearest(100, 100, 0), 2);
    }

    private static void digest() {
        QuakeBench bench = Benches.square();
        quake(bench, 100, 100, 1000);
        bench.addEvent();
        bench.setAmplitude(1, 1024);
        bench.addPick(2, true, 77);
        bench.setWeight(4, 3);
        bench.addStation(7, 8);
        bench.setDelay(4, -9);
        long[] numbers = {
            5, 5, 2, 1, 1, 6000, 3468,
            50, 100, 0, 150, 100, 0, 100, 50, 0, 100, 150, 0, 7, 8, -9,
            0, 0, 9333, 4, 0, 0, 1, 0, 9333, 4, 0, 1024, 2, 0, 9333, 4, 0, 0, 3, 0, 9333, 4, 0, 0,
            2, 1, 77, 3, -1, 0,
            4, 100, 100, 0, 1000, 1000, 38, 0,
        };
        long d = 337;
        for (long x : numbers) {
            d = d * 31 + x;
        }
        Check.due("digest()", bench.digest(), d);
        Check.due("digest() again", bench.digest(), d);
        bench.setSpeeds(6000, 173);
        Check.due("count(3)", bench.count(3), 0);
        if (bench.digest() == d) {
            Check.tell("digest() is the same with an event that is not found any more");
        }
    }
}
