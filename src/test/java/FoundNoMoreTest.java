/** The document's Terms: when an event is not found any more, and when it stays found. */
public final class FoundNoMoreTest {
    private FoundNoMoreTest() {
    }

    public static void main(String[] args) {
        giveOfAPickToIt();
        giveOfItsOwnPick();
        giveOfAPickFromItToNone();
        giveFromOneToTheOtherLosesBoth();
        giveOfAnotherEventsPick();
        giveToNoneOfAPickWithoutAnEvent();
        weightOfItsPick();
        weightAsBefore();
        weightOfOtherPicks();
        delayOfItsStation();
        delayAsBefore();
        delayOfAStationWithItsSWaveAlone();
        delayOfAStationWithoutPicksOfIt();
        delayOfAStationWhosePickWentAway();
        speedsLoseAll();
        speedsAsBefore();
        whatLosesNothing();
        asking();
        refusedCallsLoseNothing();
        lostEventTellsNoPlace();
        Check.end();
    }

    private static void stands(QuakeBench bench, String after, int... foundEvents) {
        int at = 0;
        for (int event = 0; event < bench.count(2); event++) {
            boolean due = at < foundEvents.length && foundEvents[at] == event;
            if (due) {
                at++;
            }
            boolean found;
            try {
                bench.event(event, 3);
                found = true;
            } catch (IllegalStateException e) {
                found = false;
            }
            if (found != due) {
                Check.tell("event " + event + (found ? " is" : " isn't") + " found after " + after);
            }
        }
        Check.due("count(3) after " + after, bench.count(3), foundEvents.length);
    }

    /** Events 0 and 1 are found, with the picks 0 to 3 and 4 to 7; pick 8 is S of the station 0 without an event. */
    private static QuakeBench twoFound() {
        QuakeBench bench = Benches.found();
        Benches.quake(bench, 100, 120, 0, 50000);
        bench.addPick(0, true, 15417);
        stands(bench, "seek", 0, 1);
        return bench;
    }

    private static void giveOfAPickToIt() {
        QuakeBench bench = twoFound();
        bench.give(8, 0);
        stands(bench, "give(8, 0)", 1);
    }

    /** "also to the one that it has already". */
    private static void giveOfItsOwnPick() {
        QuakeBench bench = twoFound();
        bench.give(4, 1);
        stands(bench, "give(4, 1)", 0);
    }

    /** "or goes from it". */
    private static void giveOfAPickFromItToNone() {
        QuakeBench bench = twoFound();
        bench.give(3, -1);
        stands(bench, "give(3, -1)", 1);
    }

    private static void giveFromOneToTheOtherLosesBoth() {
        QuakeBench bench = twoFound();
        bench.give(8, 0);
        bench.seek(0);
        stands(bench, "seek(0)", 0, 1);
        bench.give(8, 1);
        stands(bench, "give(8, 1) from 0", new int[0]);
    }

    private static void giveOfAnotherEventsPick() {
        QuakeBench bench = twoFound();
        bench.addEvent();
        bench.give(7, 2);
        stands(bench, "give(7, 2) from 1", 0);
    }

    private static void giveToNoneOfAPickWithoutAnEvent() {
        QuakeBench bench = twoFound();
        bench.give(8, -1);
        stands(bench, "give(8, -1)", 0, 1);
    }

    private static void weightOfItsPick() {
        QuakeBench bench = twoFound();
        bench.setWeight(0, 1);
        stands(bench, "setWeight(0, 1)", 1);
    }

    /** "also if what is set is as before". */
    private static void weightAsBefore() {
        QuakeBench bench = twoFound();
        bench.setWeight(7, 4);
        stands(bench, "setWeight(7, 4)", 0);
    }

    private static void weightOfOtherPicks() {
        QuakeBench bench = twoFound();
        bench.setWeight(8, 1);
        stands(bench, "setWeight(8, 1)", 0, 1);
    }

    private static void delayOfItsStation() {
        QuakeBench bench = twoFound();
        bench.give(4, -1);
        bench.seek(1);
        bench.setDelay(0, 1);
        stands(bench, "setDelay(0, 1)", 1);
        bench.setDelay(3, 1);
        stands(bench, "setDelay(3, 1)", new int[0]);
    }

    private static void delayAsBefore() {
        QuakeBench bench = twoFound();
        bench.setDelay(2, 0);
        stands(bench, "setDelay(2, 0)", new int[0]);
    }

    private static void delayOfAStationWithItsSWaveAlone() {
        QuakeBench bench = twoFound();
        bench.give(0, -1);
        bench.give(4, -1);
        bench.give(8, 0);
        bench.seek(0);
        bench.seek(1);
        bench.setDelay(0, 0);
        stands(bench, "setDelay(0, 0) with a pick of S alone", 1);
    }

    private static void delayOfAStationWithoutPicksOfIt() {
        QuakeBench bench = twoFound();
        bench.addStation(10, 10);
        bench.addPick(4, false, 5000);
        bench.setDelay(4, 2000);
        stands(bench, "setDelay(4, 2000)", 0, 1);
    }

    private static void delayOfAStationWhosePickWentAway() {
        QuakeBench bench = twoFound();
        bench.give(3, -1);
        bench.give(7, -1);
        bench.seek(0);
        bench.seek(1);
        bench.setDelay(3, 5);
        stands(bench, "setDelay(3, 5) of picks that went away", 0, 1);
    }

    private static void speedsLoseAll() {
        QuakeBench bench = twoFound();
        bench.setSpeeds(6000, 180);
        stands(bench, "setSpeeds(6000, 180), for picks of P", new int[0]);
    }

    private static void speedsAsBefore() {
        QuakeBench bench = twoFound();
        bench.setSpeeds(6000, 173);
        stands(bench, "setSpeeds(6000, 173)", new int[0]);
    }

    private static void whatLosesNothing() {
        QuakeBench bench = twoFound();
        bench.addStation(1, 1);
        bench.addPick(4, false, 20000);
        bench.addEvent();
        bench.give(9, 2);
        bench.setAmplitude(0, 5);
        stands(bench, "adding and setAmplitude", 0, 1);
        bench.seek(0);
        stands(bench, "seek(0) again", 0, 1);
        Check.due("associate()", bench.associate(), 1);
        Check.due("pick(8, 4)", bench.pick(8, 4), 0);
        stands(bench, "associate()", 0, 1);
    }

    private static void asking() {
        QuakeBench bench = twoFound();
        long before = bench.digest();
        bench.way(0, 1, 2, 3);
        bench.needs(0, 1, 2, 3, true);
        bench.pick(0, 4);
        bench.misfit(0, 1, 2, 3);
        bench.residual(0);
        bench.worst(0);
        bench.spread(0);
        bench.gap(0);
        bench.magnitude(0);
        bench.families(500, 10000000);
        bench.family(0, 500, 10000000);
        bench.nearest(1, 2, 3);
        stands(bench, "asking", 0, 1);
        Check.due("digest() after asking", bench.digest(), before);
    }

    private static void refusedCallsLoseNothing() {
        QuakeBench bench = twoFound();
        int another = bench.addPick(0, false, 9333);
        Check.refused(bench, "give(another, 0)", Check.STATE, () -> bench.give(another, 0));
        Check.refused(bench, "give(0, 1)", Check.STATE, () -> bench.give(0, 1));
        Check.refused(bench, "give(0, 2)", Check.OUTSIDE, () -> bench.give(0, 2));
        Check.refused(bench, "setWeight(0, 5)", Check.WRONG, () -> bench.setWeight(0, 5));
        Check.refused(bench, "setDelay(0, 2001)", Check.WRONG, () -> bench.setDelay(0, 2001));
        Check.refused(bench, "setSpeeds(9001, 173)", Check.WRONG, () -> bench.setSpeeds(9001, 173));
        Check.refused(bench, "setSpeeds(6000, 149)", Check.WRONG, () -> bench.setSpeeds(6000, 149));
        stands(bench, "refused calls", 0, 1);
    }

    private static void lostEventTellsNoPlace() {
        QuakeBench bench = Benches.found();
        bench.setWeight(0, 4);
        for (int what = 0; what <= 3; what++) {
            int w = what;
            Check.refused(bench, "event(0, " + w + ")", Check.STATE, () -> bench.event(0, w));
        }
        Check.due("event(0, 4)", bench.event(0, 4), 4);
        Check.due("event(0, 5)", bench.event(0, 5), 4);
        Check.refused(bench, "residual(0)", Check.STATE, () -> bench.residual(0));
        Check.refused(bench, "worst(0)", Check.STATE, () -> bench.worst(0));
        Check.refused(bench, "spread(0)", Check.STATE, () -> bench.spread(0));
        Check.refused(bench, "gap(0)", Check.STATE, () -> bench.gap(0));
        Check.refused(bench, "magnitude(0)", Check.STATE, () -> bench.magnitude(0));
        Check.refused(bench, "family(0, 0, 0)", Check.STATE, () -> bench.family(0, 0, 0));
        Check.due("families(500, 10000000)", bench.families(500, 10000000), 0);
        Check.due("nearest(100, 100, 0)", bench.nearest(100, 100, 0), -1);
    }
}
