/** Benches that several tests start from. */
final class Benches {
    private Benches() {
    }

    /** Four stations around (100, 100), each 50 km from there: P needs 8333 ms for this way, S 14417 ms. */
    static QuakeBench square() {
        QuakeBench bench = new QuakeBench();
        bench.addStation(50, 100);
        bench.addStation(150, 100);
        bench.addStation(100, 50);
        bench.addStation(100, 150);
        return bench;
    }
}
