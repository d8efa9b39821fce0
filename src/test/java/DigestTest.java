import java.math.BigInteger;

/** Promise 26: digest. */
public final class DigestTest {
    private DigestTest() {
    }

    public static void main(String[] args) {
        numbersOfAnEmptyBench();
        speedsThatOfPFirst();
        numbersOfStations();
        numbersOfPicks();
        eventsThatAreNotFound();
        eventsThatAreFound();
        eventsThatAreFoundBelow();
        magnitudeAndGapOfNone();
        wrapsAround();
        digestChangesNothing();
        Check.end();
    }

    /** What is due, reckoned without wrapping around until the end. */
    private static long digestOf(long... numbers) {
        BigInteger d = BigInteger.valueOf(337);
        for (long x : numbers) {
            d = d.multiply(BigInteger.valueOf(31)).add(BigInteger.valueOf(x));
        }
        return d.longValue();
    }

    private static void numbersOfAnEmptyBench() {
        Check.due("digest()", new QuakeBench().digest(), digestOf(0, 0, 0, 0, 0, 6000, 3468));
    }

    private static void speedsThatOfPFirst() {
        QuakeBench bench = new QuakeBench();
        bench.setSpeeds(9000, 200);
        Check.due("digest()", bench.digest(), digestOf(0, 0, 0, 0, 0, 9000, 4500));
    }

    private static void numbersOfStations() {
        QuakeBench bench = new QuakeBench();
        bench.addStation(7, 8);
        bench.addStation(200, 0);
        bench.setDelay(0, -2000);
        Check.due("digest()", bench.digest(), digestOf(2, 0, 0, 0, 0, 6000, 3468, 7, 8, -2000, 200, 0, 0));
    }

    /** "0 if none was noted", and -1 for no event. */
    private static void numbersOfPicks() {
        QuakeBench bench = new QuakeBench();
        bench.addStation(0, 0);
        bench.addStation(0, 0);
        bench.addEvent();
        bench.addEvent();
        bench.addPick(1, true, 77);
        bench.addPick(0, false, 10000000);
        bench.setWeight(0, 3);
        bench.setAmplitude(0, 1000000000);
        bench.give(1, 1);
        Check.due("digest()", bench.digest(), digestOf(2, 2, 2, 0, 1, 6000, 3468, 0, 0, 0, 0, 0, 0,
                1, 1, 77, 3, -1, 1000000000, 0, 0, 10000000, 4, 1, 0, 0, 1));
    }

    private static void eventsThatAreNotFound() {
        QuakeBench bench = Benches.spot(100, 200, 300);
        bench.addEvent();
        long[] numbers = {
            3, 3, 2, 0, 0, 6000, 3468, 0, 0, 0, 0, 0, 0, 0, 0, 0,
            0, 0, 100, 4, 0, 0, 1, 0, 200, 4, 0, 0, 2, 0, 300, 4, 0, 0, 3, 0,
        };
        Check.due("digest() before seek", bench.digest(), digestOf(numbers));
        bench.seek(0);
        bench.setWeight(0, 4);
        Check.due("digest() of an event not found any more", bench.digest(), digestOf(numbers));
    }

    /** "its x, y, z and time, its gap and its magnitude". */
    private static void eventsThatAreFound() {
        QuakeBench bench = new QuakeBench();
        bench.addStation(60, 120);
        bench.addStation(160, 120);
        bench.addStation(100, 60);
        bench.addEvent();
        Benches.quake(bench, 100, 120, 0, 1000);
        bench.setAmplitude(1, 1024);
        // The ways are 40, 60 and 60 km, the bearings 2000, 0 and 3000; the way of the pick 1 makes 6.
        Check.due("digest()", bench.digest(), digestOf(3, 3, 2, 1, 0, 6000, 3468, 60, 120, 0, 160, 120, 0, 100, 60, 0,
                0, 0, 7666, 4, 1, 0, 1, 0, 11000, 4, 1, 1024, 2, 0, 11000, 4, 1, 0,
                0, 3, 100, 120, 0, 1000, 2000, 39));
    }

    private static void eventsThatAreFoundBelow() {
        QuakeBench bench = Benches.squareWithCentre();
        Benches.quake(bench, 100, 100, 60, 1000);
        // The ways are 60 km and the root of 50 * 50 + 60 * 60, which is 78.102 km.
        Check.due("digest()", bench.digest(), digestOf(5, 5, 1, 1, 0, 6000, 3468,
                50, 100, 0, 150, 100, 0, 100, 50, 0, 100, 150, 0, 100, 100, 0,
                0, 0, 14017, 4, 0, 0, 1, 0, 14017, 4, 0, 0, 2, 0, 14017, 4, 0, 0, 3, 0, 14017, 4, 0, 0,
                4, 0, 11000, 4, 0, 0, 5, 100, 100, 60, 1000, 1000, -1));
    }

    private static void magnitudeAndGapOfNone() {
        QuakeBench bench = Benches.spot(0, 0, 0);
        bench.setDelay(0, 2000);
        bench.setDelay(1, 2000);
        bench.setDelay(2, 2000);
        bench.seek(0);
        Check.due("digest()", bench.digest(), digestOf(3, 3, 1, 1, 0, 6000, 3468, 0, 0, 2000, 0, 0, 2000, 0, 0, 2000,
                0, 0, 0, 4, 0, 0, 1, 0, 0, 4, 0, 0, 2, 0, 0, 4, 0, 0,
                3, 0, 0, 0, -2000, 4000, -1));
    }

    /** "which wraps around as a 64-bit integer": the digest of a full bench, put together from what the calls tell. */
    private static void wrapsAround() {
        QuakeBench bench = new QuakeBench();
        long[] numbers = new long[7 + 30 + 480];
        int at = 0;
        for (int x : new int[] {10, 80, 0, 0, 80, 6000, 3468}) {
            numbers[at++] = x;
        }
        for (int k = 0; k < 10; k++) {
            bench.addStation(200, 200);
            bench.setDelay(k, 2000);
            for (int x : new int[] {200, 200, 2000}) {
                numbers[at++] = x;
            }
        }
        for (int k = 0; k < 80; k++) {
            bench.addPick(9, true, 10000000);
            bench.setAmplitude(k, 1000000000);
            for (int x : new int[] {9, 1, 10000000, 4, -1, 1000000000}) {
                numbers[at++] = x;
            }
        }
        Check.due("digest() of a full bench", bench.digest(), digestOf(numbers));
    }

    private static void digestChangesNothing() {
        QuakeBench bench = Benches.full();
        long before = bench.digest();
        Check.due("digest() again", bench.digest(), before);
        Check.due("count(3)", bench.count(3), 2);
        Check.due("magnitude(0)", bench.magnitude(0), -1);
    }
}
