/** Promises 16 to 19: misfit, residual, worst, spread. */
public final class FitTest {
    private FitTest() {
    }

    public static void main(String[] args) {
        misfitWithoutPicks();
        misfitOfOnePick();
        misfitAfterALargerEvent();
        misfitCountsWeights();
        misfitOfFarTimes();
        misfitAtTheEdges();
        misfitKnowsEachWave();
        misfitAtNoPlace();
        misfitOfNoEvent();
        residualBearsItsSign();
        residualCountsTheWay();
        residualOfAPickWithoutAFoundEvent();
        residualOfNoPick();
        worstKnowsNoSign();
        worstOfEqualOnesIsTheSmallestNumber();
        worstOfNoneLate();
        worstKnowsNoWeight();
        worstOfNoEvent();
        spreadCountsWeights();
        spreadIsNotCut();
        spreadOfNoneLate();
        spreadOfOneFarOff();
        spreadOfNoEvent();
        fitOffTheDiagonal();
        Check.end();
    }

    // ---- misfit

    /** "0 if it has no picks". */
    private static void misfitWithoutPicks() {
        QuakeBench bench = Benches.square();
        bench.addEvent();
        Check.due("misfit(0, 0, 0, 0)", bench.misfit(0, 0, 0, 0), 0);
        Check.due("misfit(0, 200, 200, 60)", bench.misfit(0, 200, 200, 60), 0);
        bench.give(bench.addPick(0, false, 5), 0);
        bench.give(bench.addPick(1, false, 50000), 0);
        bench.give(0, -1);
        bench.give(1, -1);
        Check.due("misfit(0, 0, 0, 0) of picks that went away", bench.misfit(0, 0, 0, 0), 0);
    }

    private static void misfitOfOnePick() {
        QuakeBench bench = Benches.square();
        bench.addEvent();
        bench.give(bench.addPick(0, true, 10000000), 0);
        Check.due("misfit(0, 200, 200, 60)", bench.misfit(0, 200, 200, 60), 0);
    }

    /** What was reckoned for a larger event leaves nothing behind for a smaller one. */
    private static void misfitAfterALargerEvent() {
        QuakeBench bench = Benches.spot(100, 200, 400, 800);
        bench.addEvent();
        bench.give(bench.addPick(0, false, 5000), 1);
        bench.give(bench.addPick(1, false, 5001), 1);
        bench.addEvent();
        Check.due("misfit(0, 0, 0, 0) of four picks", bench.misfit(0, 0, 0, 0), 4 * 900);
        Check.due("misfit(1, 0, 0, 0) of two picks", bench.misfit(1, 0, 0, 0), 4);
        Check.due("misfit(2, 0, 0, 0) of none", bench.misfit(2, 0, 0, 0), 0);
    }

    private static void misfitCountsWeights() {
        QuakeBench bench = Benches.square();
        bench.addEvent();
        int[] times = {8333, 8343, 8433, 9333};
        for (int k = 0; k < 4; k++) {
            bench.give(bench.addPick(k, false, times[k]), 0);
        }
        // The starts at (100, 100, 0) are 0, 10, 100 and 1000.
        Check.due("misfit, weights 4 4 4 4", bench.misfit(0, 100, 100, 0), 4 * (10 + 0 + 90 + 990));
        bench.setWeight(0, 1);
        bench.setWeight(1, 1);
        bench.setWeight(2, 1);
        // 0, 10, 100, 1000 four times: of 7 the one with the number 3 is 1000.
        Check.due("misfit, weights 1 1 1 4", bench.misfit(0, 100, 100, 0), 1000 + 990 + 900);
        bench.setWeight(3, 3);
        // Of 6 the one with the number 2 is 100.
        Check.due("misfit, weights 1 1 1 3", bench.misfit(0, 100, 100, 0), 100 + 90 + 3 * 900);
        bench.setWeight(0, 2);
        // Of 7 the one with the number 3 is 100.
        Check.due("misfit, weights 2 1 1 3", bench.misfit(0, 100, 100, 0), 2 * 100 + 90 + 3 * 900);
        Check.due("count(3) after misfit", bench.count(3), 0);
    }

    /** The least and the greatest time, ten picks of the weight 4 each. */
    private static void misfitOfFarTimes() {
        QuakeBench bench = new QuakeBench();
        bench.addEvent();
        for (int k = 0; k < 10; k++) {
            bench.addStation(0, 0);
            bench.give(bench.addPick(k, false, 0), 0);
            bench.give(bench.addPick(k, true, 10000000), 0);
        }
        Check.due("misfit(0, 0, 0, 0)", bench.misfit(0, 0, 0, 0), 400000000);
    }

    private static void misfitAtTheEdges() {
        QuakeBench bench = Benches.spot(100, 200, 300);
        int[][] edges = {{0, 0, 0}, {200, 0, 0}, {0, 200, 0}, {0, 0, 60}, {200, 200, 60}};
        for (int[] p : edges) {
            Check.due("misfit at an edge", bench.misfit(0, p[0], p[1], p[2]), 4 * 200);
        }
    }

    private static void misfitKnowsEachWave() {
        QuakeBench bench = Benches.square();
        bench.addEvent();
        bench.give(bench.addPick(0, false, 9333), 0);
        bench.give(bench.addPick(0, true, 15417), 0);
        Check.due("misfit(0, 100, 100, 0)", bench.misfit(0, 100, 100, 0), 0);
        Check.due("misfit(0, 50, 100, 0)", bench.misfit(0, 50, 100, 0), 4 * (15417 - 9333));
    }

    private static void misfitAtNoPlace() {
        QuakeBench bench = Benches.found();
        bench.addEvent();
        for (int event = 0; event <= 1; event++) {
            int e = event;
            for (int beyond : Check.beyond(0, 200)) {
                Check.refused(bench, "misfit, x " + beyond, Check.WRONG, () -> bench.misfit(e, beyond, 0, 0));
                Check.refused(bench, "misfit, y " + beyond, Check.WRONG, () -> bench.misfit(e, 0, beyond, 0));
            }
            for (int beyond : Check.beyond(0, 60)) {
                Check.refused(bench, "misfit, z " + beyond, Check.WRONG, () -> bench.misfit(e, 0, 0, beyond));
            }
        }
    }

    private static void misfitOfNoEvent() {
        QuakeBench bench = Benches.found();
        for (int beyond : Check.beyond(0, 0)) {
            String call = "misfit(" + beyond + ", ";
            Check.refused(bench, call + "0, 0, 0)", Check.OUTSIDE, () -> bench.misfit(beyond, 0, 0, 0));
            Check.refused(bench, call + "0, 0, 61)", Check.OUTSIDE, () -> bench.misfit(beyond, 0, 0, 61));
        }
    }

    // ---- residual

    private static void residualBearsItsSign() {
        QuakeBench bench = Benches.spot(100, 200, 350);
        bench.seek(0);
        Check.due("residual(0), early", bench.residual(0), -100);
        Check.due("residual(1)", bench.residual(1), 0);
        Check.due("residual(2), late", bench.residual(2), 150);
    }

    private static void residualCountsTheWay() {
        QuakeBench bench = Benches.found();
        bench.addPick(0, true, 1000 + 14417 + 3);
        bench.addPick(1, true, 1000 + 14417 - 4);
        Check.due("associate()", bench.associate(), 2);
        int[] want = {0, 0, 0, 0, 3, -4};
        for (int pick = 0; pick < want.length; pick++) {
            Check.due("residual(" + pick + ")", bench.residual(pick), want[pick]);
        }
    }

    /** "if it has no event, or this is not found". */
    private static void residualOfAPickWithoutAFoundEvent() {
        QuakeBench bench = Benches.found();
        bench.addEvent();
        bench.addPick(0, true, 15417);
        Check.refused(bench, "residual(4) without an event", Check.STATE, () -> bench.residual(4));
        bench.give(4, 1);
        Check.refused(bench, "residual(4) of an event not found", Check.STATE, () -> bench.residual(4));
        Check.due("residual(3)", bench.residual(3), 0);
    }

    private static void residualOfNoPick() {
        QuakeBench bench = Benches.found();
        for (int beyond : Check.beyond(0, 3)) {
            Check.refused(bench, "residual(" + beyond + ")", Check.OUTSIDE, () -> bench.residual(beyond));
        }
    }

    // ---- worst

    private static void worstKnowsNoSign() {
        QuakeBench late = Benches.spot(100, 200, 301);
        late.seek(0);
        Check.due("worst(0), 101 late", late.worst(0), 2);
        QuakeBench early = Benches.spot(99, 200, 300);
        early.seek(0);
        Check.due("worst(0), 101 early", early.worst(0), 0);
    }

    /** "of several the one with the smallest number", whichever came to the event first. */
    private static void worstOfEqualOnesIsTheSmallestNumber() {
        QuakeBench bench = Benches.spot(200, 100, 300);
        bench.seek(0);
        Check.due("worst(0), 100 early and 100 late", bench.worst(0), 1);
        bench.give(1, -1);
        bench.give(1, 0);
        bench.seek(0);
        Check.due("worst(0), given once more", bench.worst(0), 1);
        bench.give(2, -1);
        bench.give(2, 0);
        bench.seek(0);
        Check.due("worst(0), the other one given once more", bench.worst(0), 1);
    }

    private static void worstOfNoneLate() {
        QuakeBench bench = Benches.spot(100, 100, 100);
        bench.give(0, -1);
        bench.give(0, 0);
        bench.seek(0);
        Check.due("worst(0)", bench.worst(0), 0);
    }

    private static void worstKnowsNoWeight() {
        QuakeBench bench = Benches.spot(100, 150, 210);
        bench.setWeight(0, 3);
        bench.setWeight(2, 1);
        // 100 three times, 150 four times, 210: of 8 the one with the number 3 is 150.
        bench.seek(0);
        Check.due("residual(0)", bench.residual(0), -50);
        Check.due("worst(0)", bench.worst(0), 2);
    }

    private static void worstOfNoEvent() {
        QuakeBench bench = Benches.found();
        bench.addEvent();
        Check.refused(bench, "worst(1), not found", Check.STATE, () -> bench.worst(1));
        for (int beyond : Check.beyond(0, 1)) {
            Check.refused(bench, "worst(" + beyond + ")", Check.OUTSIDE, () -> bench.worst(beyond));
        }
    }

    // ---- spread

    /** "the mean of the residuals of its picks, without sign, each as often as its weight says". */
    private static void spreadCountsWeights() {
        QuakeBench bench = Benches.spot(100, 200, 350);
        bench.setWeight(0, 1);
        bench.setWeight(1, 2);
        bench.setWeight(2, 1);
        bench.seek(0);
        Check.dueDouble("spread(0), weights 1 2 1", bench.spread(0), 250 / 4.0);
        bench.setWeight(0, 3);
        bench.setWeight(1, 4);
        bench.seek(0);
        Check.dueDouble("spread(0), weights 3 4 1", bench.spread(0), 450 / 8.0);
    }

    private static void spreadIsNotCut() {
        QuakeBench bench = Benches.spot(100, 200, 300, 200);
        bench.setWeight(0, 1);
        bench.setWeight(1, 3);
        bench.setWeight(2, 1);
        bench.setWeight(3, 1);
        bench.seek(0);
        Check.dueDouble("spread(0)", bench.spread(0), 200 / 6.0);
    }

    private static void spreadOfNoneLate() {
        QuakeBench bench = Benches.spot(100, 100, 100);
        bench.seek(0);
        Check.dueDouble("spread(0)", bench.spread(0), 0.0);
    }

    private static void spreadOfOneFarOff() {
        QuakeBench bench = Benches.spot(0, 0, 10000000);
        bench.seek(0);
        Check.dueDouble("spread(0)", bench.spread(0), 40000000 / 12.0);
    }

    private static void spreadOfNoEvent() {
        QuakeBench bench = Benches.found();
        bench.addEvent();
        Check.refused(bench, "spread(1), not found", Check.STATE, () -> bench.spread(1));
        for (int beyond : Check.beyond(0, 1)) {
            Check.refused(bench, "spread(" + beyond + ")", Check.OUTSIDE, () -> bench.spread(beyond));
        }
    }

    // ---- all of them

    /** The x, the y and the z of the place differ, so that none can stand for another. */
    private static void fitOffTheDiagonal() {
        int[][] places = {{30, 30}, {170, 30}, {30, 170}, {170, 170}, {90, 110}, {0, 100}, {200, 90}};
        QuakeBench bench = new QuakeBench();
        for (int[] place : places) {
            bench.addStation(place[0], place[1]);
        }
        Benches.quake(bench, 160, 40, 20, 1000);
        // From there to (30, 30) are 131909 m, to (170, 30) 24494 m; S needs 38036 ms and 7062 ms for them.
        bench.addPick(0, true, 1000 + 38036 + 7);
        bench.addPick(1, true, 1000 + 7062 - 9);
        Check.due("associate()", bench.associate(), 2);
        Check.due("residual(0)", bench.residual(0), 0);
        Check.due("residual(7)", bench.residual(7), 7);
        Check.due("residual(8)", bench.residual(8), -9);
        Check.due("worst(0)", bench.worst(0), 8);
        Check.dueDouble("spread(0)", bench.spread(0), 64 / 36.0);
        Check.due("misfit(0, 160, 40, 20)", bench.misfit(0, 160, 40, 20), 64);
    }
}
