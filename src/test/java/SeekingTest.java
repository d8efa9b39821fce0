/** Promises 14 to 20: seek, event, misfit, residual, worst, spread, gap. */
public final class SeekingTest {
    private SeekingTest() {
    }

    public static void main(String[] args) {
        seekTakesTheLeastOfEqualPlaces();
        seekNeedsThreeStations();
        event();
        misfit();
        residualWorstSpread();
        worstIsTheSmallestNumber();
        gap();
        gapOfFewBearings();
        Check.end();
    }

    private static QuakeBench squareWithPicks(int... times) {
        QuakeBench bench = Benches.square();
        bench.addEvent();
        for (int k = 0; k < times.length; k++) {
            bench.addPick(k, false, times[k]);
            bench.give(k, 0);
        }
        return bench;
    }

    private static void place(QuakeBench bench, int event, int... want) {
        for (int what = 0; what < want.length; what++) {
            Check.due("event(" + event + ", " + what + ")", bench.event(event, what), want[what]);
        }
    }

    private static void seekTakesTheLeastOfEqualPlaces() {
        QuakeBench bench = squareWithPicks(9333, 9333, 9333, 9333);
        Check.due("seek(0)", bench.seek(0), 0);
        place(bench, 0, 100, 100, 0, 1000, 4, 4);
        QuakeBench line = new QuakeBench();
        line.addEvent();
        // All stations at one place: every place fits, so each round goes to the least z, then x, then y.
        for (int k = 0; k < 3; k++) {
            line.addStation(40, 40);
            line.addPick(k, false, 5000);
            line.give(k, 0);
        }
        Check.due("seek(0) of one place", line.seek(0), 0);
        place(line, 0, 0, 0, 0, 5000 - 56568 * 1000 / 6000, 3, 3);
        QuakeBench early = squareWithPicks(0, 0, 0, 0);
        early.seek(0);
        place(early, 0, 100, 100, 0, -8333, 4, 4);
    }

    private static void seekNeedsThreeStations() {
        QuakeBench bench = Benches.square();
        Check.refused(bench, "seek(0) without events", Check.OUTSIDE, () -> bench.seek(0));
        bench.addEvent();
        Check.refused(bench, "seek(0) without picks", Check.STATE, () -> bench.seek(0));
        bench.addPick(0, false, 9333);
        bench.addPick(0, true, 15417);
        bench.addPick(1, false, 9333);
        bench.addPick(1, true, 15417);
        bench.addPick(2, false, 9333);
        for (int k = 0; k < 4; k++) {
            bench.give(k, 0);
        }
        Check.refused(bench, "seek(0) with 2 stations", Check.STATE, () -> bench.seek(0));
        Check.refused(bench, "seek(1)", Check.OUTSIDE, () -> bench.seek(1));
        Check.refused(bench, "seek(-1)", Check.OUTSIDE, () -> bench.seek(-1));
        bench.give(4, 0);
        bench.seek(0);
        Check.due("count(3)", bench.count(3), 1);
    }

    private static void event() {
        QuakeBench bench = squareWithPicks(9333, 9333, 9333);
        for (int what = 0; what <= 3; what++) {
            int w = what;
            Check.refused(bench, "event(0, " + w + ") not found", Check.STATE, () -> bench.event(0, w));
        }
        Check.due("event(0, 4)", bench.event(0, 4), 3);
        Check.due("event(0, 5)", bench.event(0, 5), 3);
        Check.refused(bench, "event(0, -1)", Check.OUTSIDE, () -> bench.event(0, -1));
        Check.refused(bench, "event(0, 6)", Check.OUTSIDE, () -> bench.event(0, 6));
        Check.refused(bench, "event(1, 4)", Check.OUTSIDE, () -> bench.event(1, 4));
        Check.refused(bench, "event(-1, 0)", Check.OUTSIDE, () -> bench.event(-1, 0));
        bench.addPick(1, true, 15417);
        bench.give(3, 0);
        bench.seek(0);
        place(bench, 0, bench.event(0, 0), bench.event(0, 1), bench.event(0, 2), bench.event(0, 3), 4, 3);
    }

    private static void misfit() {
        QuakeBench bench = squareWithPicks(8333, 8343, 8433, 9333);
        // The starts at (100, 100, 0) are 0, 10, 100 and 1000.
        Check.due("misfit, weights 4", bench.misfit(0, 100, 100, 0), 4 * (10 + 0 + 90 + 990));
        bench.setWeight(0, 1);
        bench.setWeight(1, 1);
        bench.setWeight(2, 1);
        // 0, 10, 100, 1000 four times: of 7 the one with the number 3 is 1000.
        Check.due("misfit, weights 1 1 1 4", bench.misfit(0, 100, 100, 0), 1000 + 990 + 900);
        bench.setWeight(3, 3);
        // Of 6 the one with the number 2 is 100.
        Check.due("misfit, weights 1 1 1 3", bench.misfit(0, 100, 100, 0), 100 + 90 + 3 * 900);
        Check.due("count(3)", bench.count(3), 0);
        bench.addEvent();
        Check.due("misfit without picks", bench.misfit(1, 0, 0, 0), 0);
        bench.addPick(0, true, 10000000);
        bench.give(4, 1);
        Check.due("misfit of one pick", bench.misfit(1, 200, 200, 60), 0);
        Check.refused(bench, "misfit(2, 0, 0, 61)", Check.OUTSIDE, () -> bench.misfit(2, 0, 0, 61));
        Check.refused(bench, "misfit(-1, 0, 0, 0)", Check.OUTSIDE, () -> bench.misfit(-1, 0, 0, 0));
        QuakeBench wide = squareWithPicks(0, 0, 10000000, 10000000);
        Check.due("misfit, far apart", wide.misfit(0, 100, 100, 0), 80000000);
    }

    private static void residualWorstSpread() {
        QuakeBench bench = squareWithPicks(9333, 9333, 9333, 9333);
        Check.refused(bench, "residual(0) not found", Check.STATE, () -> bench.residual(0));
        Check.refused(bench, "worst(0) not found", Check.STATE, () -> bench.worst(0));
        Check.refused(bench, "spread(0) not found", Check.STATE, () -> bench.spread(0));
        Check.refused(bench, "gap(0) not found", Check.STATE, () -> bench.gap(0));
        bench.seek(0);
        // S needs 14417 ms from (100, 100, 0): these three join as they are, 1000 late, 1100 early, 1 early.
        bench.addPick(0, true, 16417);
        bench.addPick(1, true, 14317);
        bench.addPick(2, true, 15416);
        bench.setWeight(4, 3);
        bench.setWeight(5, 1);
        bench.setWeight(6, 2);
        Check.refused(bench, "residual(4) without an event", Check.STATE, () -> bench.residual(4));
        Check.due("associate()", bench.associate(), 3);
        int[] want = {0, 0, 0, 0, 1000, -1100, -1};
        for (int pick = 0; pick < want.length; pick++) {
            Check.due("residual(" + pick + ")", bench.residual(pick), want[pick]);
        }
        Check.due("worst(0)", bench.worst(0), 5);
        Check.dueDouble("spread(0)", bench.spread(0), (3 * 1000 + 1100 + 2 * 1) / 22.0);
        wrongNumbers(bench);
    }

    private static void wrongNumbers(QuakeBench bench) {
        Check.refused(bench, "residual(7)", Check.OUTSIDE, () -> bench.residual(7));
        Check.refused(bench, "residual(-1)", Check.OUTSIDE, () -> bench.residual(-1));
        for (int event = -1; event <= 1; event += 2) {
            int e = event;
            Check.refused(bench, "worst(" + e + ")", Check.OUTSIDE, () -> bench.worst(e));
            Check.refused(bench, "spread(" + e + ")", Check.OUTSIDE, () -> bench.spread(e));
            Check.refused(bench, "gap(" + e + ")", Check.OUTSIDE, () -> bench.gap(e));
        }
    }

    private static void worstIsTheSmallestNumber() {
        QuakeBench bench = Benches.square();
        bench.addEvent();
        bench.addPick(0, true, 14417 + 1500);
        bench.addPick(1, true, 14417 + 500);
        for (int k = 0; k < 4; k++) {
            bench.addPick(k, false, 9333);
            bench.give(k + 2, 0);
        }
        bench.seek(0);
        Check.due("worst(0) of equal ones", bench.worst(0), 2);
        Check.dueDouble("spread(0) of none late", bench.spread(0), 0.0);
        bench.associate();
        // Pick 1 is the earlier one and came to the event before pick 0; only the number tells.
        Check.due("residual(0)", bench.residual(0), 500);
        Check.due("residual(1)", bench.residual(1), -500);
        Check.due("worst(0)", bench.worst(0), 0);
    }

    /** The gap of an event that is found at (100, 100) by stations at these places. */
    private static int gapWith(int... places) {
        QuakeBench bench = new QuakeBench();
        bench.addEvent();
        int n = places.length / 2;
        for (int k = 0; k < n; k++) {
            bench.addStation(places[2 * k], places[2 * k + 1]);
            bench.addPick(k, false, 100000 + bench.needs(k, 100, 100, 0, false));
            bench.give(k, 0);
        }
        bench.seek(0);
        Check.due("event(0, 0) for a gap", bench.event(0, 0), 100);
        Check.due("event(0, 1) for a gap", bench.event(0, 1), 100);
        return bench.gap(0);
    }

    private static void gap() {
        Check.due("gap of a square", gapWith(50, 100, 150, 100, 100, 50, 100, 150), 1000);
        // Bearings 500, 1500, 2500, 3500 and the one at the place itself, which has none.
        Check.due("gap of a turned square", gapWith(150, 150, 50, 150, 50, 50, 150, 50, 100, 100), 1000);
        // Bearings 0, 333 (30 of 90), 1000, 2666 (2000 + 666), 3000: the gap is from 1000 to 2666.
        Check.due("gap of five", gapWith(150, 100, 160, 130, 100, 150, 70, 40, 100, 50), 1666);
        // Bearings 0, 1000, 2000, 2333 (60, 30), 3142 (3000 + 10 of 70): each cut by itself.
        Check.due("gap of others", gapWith(150, 100, 100, 150, 50, 100, 40, 70, 110, 40), 1000);
        // Bearings 1333 (1000 + 333), 1667 would be 1666: the cut is towards 0 before it is taken away.
        Check.due("gap beyond the greatest", gapWith(80, 140, 40, 130, 20, 60, 60, 20, 60, 100), 4000 - (2666 - 1333));
    }

    private static void gapOfFewBearings() {
        QuakeBench bench = new QuakeBench();
        bench.addEvent();
        for (int k = 0; k < 3; k++) {
            bench.addStation(0, 0);
            bench.addPick(k, false, 5000);
            bench.give(k, 0);
        }
        bench.seek(0);
        place(bench, 0, 0, 0, 0, 5000);
        Check.due("gap(0) without bearings", bench.gap(0), 4000);
        QuakeBench one = new QuakeBench();
        one.addEvent();
        for (int k = 0; k < 3; k++) {
            one.addStation(0, 10);
            one.addPick(k, false, 5000);
            one.give(k, 0);
        }
        one.seek(0);
        place(one, 0, 0, 0, 0);
        Check.due("gap(0) of equal bearings", one.gap(0), 4000);
    }
}
