/** Promise 1: a new object is without stations, picks and events; what each call answers when nothing is there yet. */
public final class NewBenchTest {
    private NewBenchTest() {
    }

    public static void main(String[] args) {
        everyCountIsNought();
        firstSpeeds();
        digestOfNothing();
        nothingToPutTogether();
        noFamilies();
        nothingIsNearest();
        noStationYet();
        noPickYet();
        noEventYet();
        noOtherExceptionComesFirst();
        benchesShareNothing();
        Check.end();
    }

    private static void everyCountIsNought() {
        QuakeBench bench = new QuakeBench();
        for (int what = 0; what <= 4; what++) {
            Check.due("count(" + what + ") of a new bench", bench.count(what), 0);
        }
    }

    /** "6000, at first" and "173, at first". */
    private static void firstSpeeds() {
        QuakeBench bench = new QuakeBench();
        bench.addStation(0, 0);
        Check.due("needs(0, 200, 200, 0, false) at first", bench.needs(0, 200, 200, 0, false), 282842000 / 6000);
        Check.due("needs(0, 200, 200, 0, true) at first", bench.needs(0, 200, 200, 0, true), 282842000 / 3468);
    }

    private static void digestOfNothing() {
        QuakeBench bench = new QuakeBench();
        long d = 337;
        for (int x : new int[] {0, 0, 0, 0, 0, 6000, 3468}) {
            d = d * 31 + x;
        }
        Check.due("digest() of a new bench", bench.digest(), d);
        Check.due("setSpeeds(6000, 173)", bench.setSpeeds(6000, 173), 3468);
        Check.due("digest() with the first speeds set again", bench.digest(), d);
    }

    private static void nothingToPutTogether() {
        QuakeBench bench = new QuakeBench();
        Check.due("associate() of nothing", bench.associate(), 0);
        Check.due("count(2) after it", bench.count(2), 0);
    }

    private static void noFamilies() {
        QuakeBench bench = new QuakeBench();
        Check.due("families(0, 0) of nothing", bench.families(0, 0), 0);
        Check.due("families(500, 10000000) of nothing", bench.families(500, 10000000), 0);
    }

    private static void nothingIsNearest() {
        QuakeBench bench = new QuakeBench();
        Check.due("nearest(0, 0, 0) of nothing", bench.nearest(0, 0, 0), -1);
    }

    private static void noStationYet() {
        QuakeBench bench = new QuakeBench();
        Check.refused(bench, "setDelay(0, 0)", Check.OUTSIDE, () -> bench.setDelay(0, 0));
        Check.refused(bench, "way(0, 0, 0, 0)", Check.OUTSIDE, () -> bench.way(0, 0, 0, 0));
        Check.refused(bench, "needs(0, 0, 0, 0, false)", Check.OUTSIDE, () -> bench.needs(0, 0, 0, 0, false));
        Check.refused(bench, "addPick(0, false, 0)", Check.OUTSIDE, () -> bench.addPick(0, false, 0));
    }

    private static void noPickYet() {
        QuakeBench bench = new QuakeBench();
        bench.addStation(0, 0);
        bench.addEvent();
        Check.refused(bench, "setWeight(0, 1)", Check.OUTSIDE, () -> bench.setWeight(0, 1));
        Check.refused(bench, "pick(0, 0)", Check.OUTSIDE, () -> bench.pick(0, 0));
        Check.refused(bench, "give(0, 0)", Check.OUTSIDE, () -> bench.give(0, 0));
        Check.refused(bench, "give(0, -1)", Check.OUTSIDE, () -> bench.give(0, -1));
        Check.refused(bench, "residual(0)", Check.OUTSIDE, () -> bench.residual(0));
        Check.refused(bench, "setAmplitude(0, 1)", Check.OUTSIDE, () -> bench.setAmplitude(0, 1));
    }

    private static void noEventYet() {
        QuakeBench bench = new QuakeBench();
        bench.addStation(0, 0);
        bench.addPick(0, false, 0);
        Check.refused(bench, "give(0, 0)", Check.OUTSIDE, () -> bench.give(0, 0));
        Check.refused(bench, "seek(0)", Check.OUTSIDE, () -> bench.seek(0));
        Check.refused(bench, "event(0, 4)", Check.OUTSIDE, () -> bench.event(0, 4));
        Check.refused(bench, "misfit(0, 0, 0, 0)", Check.OUTSIDE, () -> bench.misfit(0, 0, 0, 0));
        Check.refused(bench, "worst(0)", Check.OUTSIDE, () -> bench.worst(0));
        Check.refused(bench, "spread(0)", Check.OUTSIDE, () -> bench.spread(0));
        Check.refused(bench, "gap(0)", Check.OUTSIDE, () -> bench.gap(0));
        Check.refused(bench, "magnitude(0)", Check.OUTSIDE, () -> bench.magnitude(0));
        Check.refused(bench, "family(0, 0, 0)", Check.OUTSIDE, () -> bench.family(0, 0, 0));
    }

    private static void noOtherExceptionComesFirst() {
        QuakeBench bench = new QuakeBench();
        Check.refused(bench, "setDelay(0, 2001)", Check.OUTSIDE, () -> bench.setDelay(0, 2001));
        Check.refused(bench, "way(0, -1, 0, 0)", Check.OUTSIDE, () -> bench.way(0, -1, 0, 0));
        Check.refused(bench, "needs(0, 0, 0, 61, true)", Check.OUTSIDE, () -> bench.needs(0, 0, 0, 61, true));
        Check.refused(bench, "addPick(0, true, -1)", Check.OUTSIDE, () -> bench.addPick(0, true, -1));
        Check.refused(bench, "setWeight(0, 5)", Check.OUTSIDE, () -> bench.setWeight(0, 5));
        Check.refused(bench, "misfit(0, 0, 201, 0)", Check.OUTSIDE, () -> bench.misfit(0, 0, 201, 0));
        Check.refused(bench, "setAmplitude(0, 0)", Check.OUTSIDE, () -> bench.setAmplitude(0, 0));
        Check.refused(bench, "family(0, 501, 0)", Check.OUTSIDE, () -> bench.family(0, 501, 0));
    }

    private static void benchesShareNothing() {
        QuakeBench bench = new QuakeBench();
        long before = bench.digest();
        QuakeBench other = Benches.full();
        other.setSpeeds(5000, 180);
        Check.due("digest() beside a full bench", bench.digest(), before);
        Check.due("addStation beside a full bench", bench.addStation(1, 2), 0);
        Check.due("addPick beside a full bench", bench.addPick(0, false, 0), 0);
        Check.due("addEvent beside a full bench", bench.addEvent(), 0);
    }
}
