/** Promises 10, 11 and 13: addEvent, give, count. */
public final class EventsTest {
    private EventsTest() {
    }

    public static void main(String[] args) {
        eventsAreNumberedFromNought();
        whatANewEventHas();
        twelveEventsAndNoMore();
        giveReturnsTheEventBefore();
        giveToTheEventThatItHas();
        giveToNoneAndBack();
        giveMovesAPick();
        giveOfNoPick();
        giveToNoEvent();
        anotherPickOfTheSameStationAndWave();
        anotherPickFromAnotherEvent();
        otherWaveAndOtherStation();
        placeIsFreeAgain();
        everyStationAndWaveOnce();
        countTellsAll();
        countOfPicksWithoutAnEvent();
        countOfFoundEvents();
        countTellsWhatIsNot();
        Check.end();
    }

    /** Picks 0 P and 1 S and 2 P again of the station 0, 3 P of the station 1; two events. */
    private static QuakeBench fourPicks() {
        QuakeBench bench = Benches.square();
        bench.addPick(0, false, 0);
        bench.addPick(0, true, 0);
        bench.addPick(0, false, 7);
        bench.addPick(1, false, 0);
        bench.addEvent();
        bench.addEvent();
        return bench;
    }

    private static void picksOfEvents(QuakeBench bench, int first, int second) {
        Check.due("event(0, 4)", bench.event(0, 4), first);
        Check.due("event(1, 4)", bench.event(1, 4), second);
    }

    // ---- addEvent

    private static void eventsAreNumberedFromNought() {
        QuakeBench bench = new QuakeBench();
        for (int k = 0; k < 12; k++) {
            Check.due("addEvent(), the number " + k, bench.addEvent(), k);
            Check.due("count(2)", bench.count(2), k + 1);
        }
    }

    /** "Adds an event without picks", and it isn't found. */
    private static void whatANewEventHas() {
        QuakeBench bench = new QuakeBench();
        bench.addEvent();
        Check.due("event(0, 4)", bench.event(0, 4), 0);
        Check.due("event(0, 5)", bench.event(0, 5), 0);
        Check.due("count(3)", bench.count(3), 0);
        Check.refused(bench, "event(0, 0)", Check.STATE, () -> bench.event(0, 0));
    }

    /** "There are at most 12". */
    private static void twelveEventsAndNoMore() {
        QuakeBench bench = new QuakeBench();
        for (int k = 0; k < 12; k++) {
            bench.addEvent();
        }
        Check.refused(bench, "addEvent(), the 13th", Check.STATE, bench::addEvent);
        Check.due("count(2)", bench.count(2), 12);
        Check.due("event(11, 4)", bench.event(11, 4), 0);
        Check.refused(bench, "event(12, 4)", Check.OUTSIDE, () -> bench.event(12, 4));
    }

    // ---- give

    private static void giveReturnsTheEventBefore() {
        QuakeBench bench = fourPicks();
        Check.due("give(0, 1)", bench.give(0, 1), -1);
        Check.due("give(0, 0)", bench.give(0, 0), 1);
        Check.due("give(0, -1)", bench.give(0, -1), 0);
        Check.due("give(0, 0) again", bench.give(0, 0), -1);
    }

    private static void giveToTheEventThatItHas() {
        QuakeBench bench = fourPicks();
        bench.give(0, 1);
        Check.due("give(0, 1) again", bench.give(0, 1), 1);
        Check.due("pick(0, 4)", bench.pick(0, 4), 1);
        picksOfEvents(bench, 0, 1);
    }

    private static void giveToNoneAndBack() {
        QuakeBench bench = fourPicks();
        Check.due("give(0, -1) of a pick without an event", bench.give(0, -1), -1);
        Check.due("pick(0, 4)", bench.pick(0, 4), -1);
        picksOfEvents(bench, 0, 0);
        bench.give(0, 0);
        bench.give(0, -1);
        Check.due("pick(0, 4) of a pick taken away", bench.pick(0, 4), -1);
        picksOfEvents(bench, 0, 0);
        bench.give(0, 0);
        picksOfEvents(bench, 1, 0);
    }

    private static void giveMovesAPick() {
        QuakeBench bench = fourPicks();
        bench.give(0, 0);
        bench.give(1, 0);
        bench.give(3, 0);
        picksOfEvents(bench, 3, 0);
        bench.give(1, 1);
        picksOfEvents(bench, 2, 1);
        Check.eventsOfPicks(bench, 0, 1, -1, 0);
    }

    private static void giveOfNoPick() {
        QuakeBench bench = fourPicks();
        Check.due("give(3, 0), the last pick", bench.give(3, 0), -1);
        for (int beyond : Check.beyond(0, 3)) {
            Check.refused(bench, "give(" + beyond + ", 0)", Check.OUTSIDE, () -> bench.give(beyond, 0));
            Check.refused(bench, "give(" + beyond + ", -1)", Check.OUTSIDE, () -> bench.give(beyond, -1));
            Check.refused(bench, "give(" + beyond + ", 2)", Check.OUTSIDE, () -> bench.give(beyond, 2));
        }
    }

    /** "event is not -1, and no event". */
    private static void giveToNoEvent() {
        QuakeBench bench = fourPicks();
        Check.due("give(0, 1), the last event", bench.give(0, 1), -1);
        for (int beyond : Check.beyond(-1, 1)) {
            Check.refused(bench, "give(0, " + beyond + ")", Check.OUTSIDE, () -> bench.give(0, beyond));
        }
        Check.due("pick(0, 4)", bench.pick(0, 4), 1);
    }

    private static void anotherPickOfTheSameStationAndWave() {
        QuakeBench bench = fourPicks();
        bench.give(0, 0);
        Check.refused(bench, "give(2, 0)", Check.STATE, () -> bench.give(2, 0));
        Check.due("pick(2, 4)", bench.pick(2, 4), -1);
        picksOfEvents(bench, 1, 0);
    }

    private static void anotherPickFromAnotherEvent() {
        QuakeBench bench = fourPicks();
        bench.give(0, 0);
        bench.give(2, 1);
        Check.refused(bench, "give(2, 0) from 1", Check.STATE, () -> bench.give(2, 0));
        Check.refused(bench, "give(0, 1) from 0", Check.STATE, () -> bench.give(0, 1));
        Check.eventsOfPicks(bench, 0, -1, 1, -1);
        picksOfEvents(bench, 1, 1);
    }

    private static void otherWaveAndOtherStation() {
        QuakeBench bench = fourPicks();
        bench.give(0, 0);
        Check.due("give(1, 0), another wave of the station", bench.give(1, 0), -1);
        Check.due("give(3, 0), the wave of another station", bench.give(3, 0), -1);
        Check.due("event(0, 4)", bench.event(0, 4), 3);
        Check.due("event(0, 5)", bench.event(0, 5), 2);
    }

    private static void placeIsFreeAgain() {
        QuakeBench bench = fourPicks();
        bench.give(0, 0);
        bench.give(0, -1);
        Check.due("give(2, 0)", bench.give(2, 0), -1);
        bench.give(2, 1);
        Check.due("give(0, 0)", bench.give(0, 0), -1);
        Check.eventsOfPicks(bench, 0, -1, 1, -1);
    }

    /** The fullest event: both waves of 10 stations. */
    private static void everyStationAndWaveOnce() {
        QuakeBench bench = new QuakeBench();
        bench.addEvent();
        for (int k = 0; k < 10; k++) {
            bench.addStation(20 * k, 20 * (k % 3));
        }
        for (int k = 0; k < 20; k++) {
            bench.addPick(k % 10, k >= 10, 50000);
            Check.due("give(" + k + ", 0)", bench.give(k, 0), -1);
        }
        Check.due("event(0, 4)", bench.event(0, 4), 20);
        Check.due("event(0, 5)", bench.event(0, 5), 10);
        for (int k = 20; k < 40; k++) {
            int pick = bench.addPick(k % 10, k >= 30, 50000);
            Check.refused(bench, "give(" + pick + ", 0)", Check.STATE, () -> bench.give(pick, 0));
        }
    }

    // ---- count

    private static void countTellsAll() {
        QuakeBench bench = Benches.found();
        bench.addEvent();
        bench.addEvent();
        bench.addPick(0, true, 0);
        bench.addPick(0, true, 0);
        int[] want = {4, 6, 3, 1, 2};
        for (int what = 0; what <= 4; what++) {
            Check.due("count(" + what + ")", bench.count(what), want[what]);
        }
        QuakeBench full = Benches.full();
        int[] most = {10, 80, 12, 2, 72};
        for (int what = 0; what <= 4; what++) {
            Check.due("count(" + what + ") of a full bench", full.count(what), most[what]);
        }
    }

    private static void countOfPicksWithoutAnEvent() {
        QuakeBench bench = fourPicks();
        Check.due("count(4)", bench.count(4), 4);
        bench.give(0, 0);
        bench.give(3, 1);
        Check.due("count(4) of two given ones", bench.count(4), 2);
        bench.give(0, -1);
        Check.due("count(4) of one taken away", bench.count(4), 3);
    }

    private static void countOfFoundEvents() {
        QuakeBench bench = Benches.found();
        Benches.quake(bench, 100, 120, 0, 9000);
        Check.due("count(3)", bench.count(3), 2);
        bench.setWeight(0, 4);
        Check.due("count(3) of one lost", bench.count(3), 1);
        bench.setSpeeds(6000, 173);
        Check.due("count(3) of all lost", bench.count(3), 0);
    }

    private static void countTellsWhatIsNot() {
        QuakeBench bench = Benches.found();
        for (int beyond : Check.beyond(0, 4)) {
            Check.refused(bench, "count(" + beyond + ")", Check.OUTSIDE, () -> bench.count(beyond));
        }
    }
}
