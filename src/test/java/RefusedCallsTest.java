/**
 * "A method that throws an exception changes nothing. If several exceptions apply, the one that is named first is
 * thrown." Each exception of each promise, on a bench with all places taken and with found events.
 */
public final class RefusedCallsTest {
    private static final int ALL = Integer.MAX_VALUE;

    private RefusedCallsTest() {
    }

    public static void main(String[] args) {
        addStation();
        setDelay();
        setSpeeds();
        wayAndNeeds();
        addPick();
        setWeight();
        pick();
        addEvent();
        give();
        count();
        seek();
        event();
        misfit();
        residual();
        worstSpreadGap();
        setAmplitude();
        magnitude();
        familiesAndFamily();
        nearest();
        Check.end();
    }

    /** All places taken; 0 and 1 are found, 2 has the picks of two stations, 3 one pick, the others none. */
    private static QuakeBench full() {
        QuakeBench bench = Benches.full();
        bench.give(8, 2);
        bench.give(9, 2);
        bench.give(18, 2);
        bench.give(19, 2);
        bench.give(11, 3);
        Check.due("event(2, 5)", bench.event(2, 5), 2);
        Check.due("count(3)", bench.count(3), 2);
        return bench;
    }

    private static void addStation() {
        QuakeBench bench = full();
        Check.refused(bench, "addStation(5, 5)", Check.STATE, () -> bench.addStation(5, 5));
        Check.refused(bench, "addStation(-1, 5)", Check.WRONG, () -> bench.addStation(-1, 5));
        Check.refused(bench, "addStation(5, 201)", Check.WRONG, () -> bench.addStation(5, 201));
        Check.refused(bench, "addStation(ALL, ALL)", Check.WRONG, () -> bench.addStation(ALL, ALL));
    }

    private static void setDelay() {
        QuakeBench bench = full();
        Check.refused(bench, "setDelay(0, 2001)", Check.WRONG, () -> bench.setDelay(0, 2001));
        Check.refused(bench, "setDelay(0, -2001)", Check.WRONG, () -> bench.setDelay(0, -2001));
        Check.refused(bench, "setDelay(10, 5)", Check.OUTSIDE, () -> bench.setDelay(10, 5));
        Check.refused(bench, "setDelay(10, 2001)", Check.OUTSIDE, () -> bench.setDelay(10, 2001));
        Check.refused(bench, "setDelay(-1, -2001)", Check.OUTSIDE, () -> bench.setDelay(-1, -2001));
    }

    private static void setSpeeds() {
        QuakeBench bench = full();
        Check.refused(bench, "setSpeeds(2999, 180)", Check.WRONG, () -> bench.setSpeeds(2999, 180));
        Check.refused(bench, "setSpeeds(9001, 180)", Check.WRONG, () -> bench.setSpeeds(9001, 180));
        Check.refused(bench, "setSpeeds(5000, 149)", Check.WRONG, () -> bench.setSpeeds(5000, 149));
        Check.refused(bench, "setSpeeds(5000, 201)", Check.WRONG, () -> bench.setSpeeds(5000, 201));
        Check.refused(bench, "setSpeeds(0, 0)", Check.WRONG, () -> bench.setSpeeds(0, 0));
    }

    private static void wayAndNeeds() {
        QuakeBench bench = full();
        Check.refused(bench, "way(9, 0, 0, 61)", Check.WRONG, () -> bench.way(9, 0, 0, 61));
        Check.refused(bench, "way(10, 0, 0, 0)", Check.OUTSIDE, () -> bench.way(10, 0, 0, 0));
        Check.refused(bench, "way(10, 0, 0, 61)", Check.OUTSIDE, () -> bench.way(10, 0, 0, 61));
        Check.refused(bench, "needs(9, 201, 0, 0, true)", Check.WRONG, () -> bench.needs(9, 201, 0, 0, true));
        Check.refused(bench, "needs(-1, 0, 0, 0, true)", Check.OUTSIDE, () -> bench.needs(-1, 0, 0, 0, true));
        Check.refused(bench, "needs(-1, 201, 0, 0, true)", Check.OUTSIDE, () -> bench.needs(-1, 201, 0, 0, true));
    }

    private static void addPick() {
        QuakeBench bench = full();
        Check.refused(bench, "addPick(9, true, 5)", Check.STATE, () -> bench.addPick(9, true, 5));
        Check.refused(bench, "addPick(9, true, -1)", Check.WRONG, () -> bench.addPick(9, true, -1));
        Check.refused(bench, "addPick(10, true, 5)", Check.OUTSIDE, () -> bench.addPick(10, true, 5));
        Check.refused(bench, "addPick(10, true, 10000001)", Check.OUTSIDE, () -> bench.addPick(10, true, 10000001));
    }

    private static void setWeight() {
        QuakeBench bench = full();
        Check.refused(bench, "setWeight(0, 0)", Check.WRONG, () -> bench.setWeight(0, 0));
        Check.refused(bench, "setWeight(7, 5)", Check.WRONG, () -> bench.setWeight(7, 5));
        Check.refused(bench, "setWeight(80, 1)", Check.OUTSIDE, () -> bench.setWeight(80, 1));
        Check.refused(bench, "setWeight(80, 0)", Check.OUTSIDE, () -> bench.setWeight(80, 0));
        Check.refused(bench, "setWeight(-1, 5)", Check.OUTSIDE, () -> bench.setWeight(-1, 5));
    }

    private static void pick() {
        QuakeBench bench = full();
        Check.refused(bench, "pick(80, 0)", Check.OUTSIDE, () -> bench.pick(80, 0));
        Check.refused(bench, "pick(79, 5)", Check.OUTSIDE, () -> bench.pick(79, 5));
        Check.refused(bench, "pick(-1, -1)", Check.OUTSIDE, () -> bench.pick(-1, -1));
    }

    private static void addEvent() {
        QuakeBench bench = full();
        Check.refused(bench, "addEvent()", Check.STATE, bench::addEvent);
    }

    private static void give() {
        QuakeBench bench = full();
        // Pick 20 is of P and of the station 0, as the picks 0 and 4 are.
        Check.refused(bench, "give(20, 0)", Check.STATE, () -> bench.give(20, 0));
        Check.refused(bench, "give(0, 1)", Check.STATE, () -> bench.give(0, 1));
        Check.refused(bench, "give(4, 0)", Check.STATE, () -> bench.give(4, 0));
        Check.refused(bench, "give(0, 12)", Check.OUTSIDE, () -> bench.give(0, 12));
        Check.refused(bench, "give(0, -2)", Check.OUTSIDE, () -> bench.give(0, -2));
        Check.refused(bench, "give(80, 0)", Check.OUTSIDE, () -> bench.give(80, 0));
        Check.refused(bench, "give(-1, -1)", Check.OUTSIDE, () -> bench.give(-1, -1));
        Check.refused(bench, "give(80, 12)", Check.OUTSIDE, () -> bench.give(80, 12));
    }

    private static void count() {
        QuakeBench bench = full();
        Check.refused(bench, "count(5)", Check.OUTSIDE, () -> bench.count(5));
        Check.refused(bench, "count(-1)", Check.OUTSIDE, () -> bench.count(-1));
    }

    private static void seek() {
        QuakeBench bench = full();
        Check.refused(bench, "seek(2), two stations", Check.STATE, () -> bench.seek(2));
        Check.refused(bench, "seek(3), one station", Check.STATE, () -> bench.seek(3));
        Check.refused(bench, "seek(4), no station", Check.STATE, () -> bench.seek(4));
        Check.refused(bench, "seek(12)", Check.OUTSIDE, () -> bench.seek(12));
        Check.refused(bench, "seek(-1)", Check.OUTSIDE, () -> bench.seek(-1));
    }

    private static void event() {
        QuakeBench bench = full();
        Check.refused(bench, "event(2, 0)", Check.STATE, () -> bench.event(2, 0));
        Check.refused(bench, "event(2, 3)", Check.STATE, () -> bench.event(2, 3));
        Check.refused(bench, "event(2, 6)", Check.OUTSIDE, () -> bench.event(2, 6));
        Check.refused(bench, "event(2, -1)", Check.OUTSIDE, () -> bench.event(2, -1));
        Check.refused(bench, "event(0, 6)", Check.OUTSIDE, () -> bench.event(0, 6));
        Check.refused(bench, "event(12, 4)", Check.OUTSIDE, () -> bench.event(12, 4));
        Check.refused(bench, "event(-1, 6)", Check.OUTSIDE, () -> bench.event(-1, 6));
    }

    private static void misfit() {
        QuakeBench bench = full();
        Check.refused(bench, "misfit(0, 0, 0, 61)", Check.WRONG, () -> bench.misfit(0, 0, 0, 61));
        Check.refused(bench, "misfit(4, 0, -1, 0)", Check.WRONG, () -> bench.misfit(4, 0, -1, 0));
        Check.refused(bench, "misfit(12, 0, 0, 0)", Check.OUTSIDE, () -> bench.misfit(12, 0, 0, 0));
        Check.refused(bench, "misfit(-1, 201, 0, 0)", Check.OUTSIDE, () -> bench.misfit(-1, 201, 0, 0));
    }

    private static void residual() {
        QuakeBench bench = full();
        Check.refused(bench, "residual(79), no event", Check.STATE, () -> bench.residual(79));
        Check.refused(bench, "residual(8), not found", Check.STATE, () -> bench.residual(8));
        Check.refused(bench, "residual(80)", Check.OUTSIDE, () -> bench.residual(80));
        Check.refused(bench, "residual(-1)", Check.OUTSIDE, () -> bench.residual(-1));
    }

    private static void worstSpreadGap() {
        QuakeBench bench = full();
        Check.refused(bench, "worst(2)", Check.STATE, () -> bench.worst(2));
        Check.refused(bench, "worst(12)", Check.OUTSIDE, () -> bench.worst(12));
        Check.refused(bench, "worst(-1)", Check.OUTSIDE, () -> bench.worst(-1));
        Check.refused(bench, "spread(2)", Check.STATE, () -> bench.spread(2));
        Check.refused(bench, "spread(4)", Check.STATE, () -> bench.spread(4));
        Check.refused(bench, "spread(12)", Check.OUTSIDE, () -> bench.spread(12));
        Check.refused(bench, "spread(-1)", Check.OUTSIDE, () -> bench.spread(-1));
        Check.refused(bench, "gap(2)", Check.STATE, () -> bench.gap(2));
        Check.refused(bench, "gap(12)", Check.OUTSIDE, () -> bench.gap(12));
        Check.refused(bench, "gap(-1)", Check.OUTSIDE, () -> bench.gap(-1));
    }

    private static void setAmplitude() {
        QuakeBench bench = full();
        bench.setAmplitude(0, 77);
        Check.refused(bench, "setAmplitude(0, 0)", Check.WRONG, () -> bench.setAmplitude(0, 0));
        Check.refused(bench, "setAmplitude(0, 1000000001)", Check.WRONG, () -> bench.setAmplitude(0, 1000000001));
        Check.refused(bench, "setAmplitude(80, 1)", Check.OUTSIDE, () -> bench.setAmplitude(80, 1));
        Check.refused(bench, "setAmplitude(-1, 0)", Check.OUTSIDE, () -> bench.setAmplitude(-1, 0));
    }

    private static void magnitude() {
        QuakeBench bench = full();
        bench.setAmplitude(8, 77);
        Check.refused(bench, "magnitude(2)", Check.STATE, () -> bench.magnitude(2));
        Check.refused(bench, "magnitude(12)", Check.OUTSIDE, () -> bench.magnitude(12));
        Check.refused(bench, "magnitude(-1)", Check.OUTSIDE, () -> bench.magnitude(-1));
    }

    private static void familiesAndFamily() {
        QuakeBench bench = full();
        Check.refused(bench, "families(501, 0)", Check.WRONG, () -> bench.families(501, 0));
        Check.refused(bench, "families(0, 10000001)", Check.WRONG, () -> bench.families(0, 10000001));
        Check.refused(bench, "family(2, 0, 0)", Check.STATE, () -> bench.family(2, 0, 0));
        Check.refused(bench, "family(0, 501, 0)", Check.WRONG, () -> bench.family(0, 501, 0));
        Check.refused(bench, "family(2, 501, 0)", Check.WRONG, () -> bench.family(2, 501, 0));
        Check.refused(bench, "family(2, 0, -1)", Check.WRONG, () -> bench.family(2, 0, -1));
        Check.refused(bench, "family(12, 0, 0)", Check.OUTSIDE, () -> bench.family(12, 0, 0));
        Check.refused(bench, "family(12, -1, -1)", Check.OUTSIDE, () -> bench.family(12, -1, -1));
    }

    private static void nearest() {
        QuakeBench bench = full();
        Check.refused(bench, "nearest(-1, 0, 0)", Check.WRONG, () -> bench.nearest(-1, 0, 0));
        Check.refused(bench, "nearest(0, 201, 0)", Check.WRONG, () -> bench.nearest(0, 201, 0));
        Check.refused(bench, "nearest(0, 0, 61)", Check.WRONG, () -> bench.nearest(0, 0, 61));
    }
}
