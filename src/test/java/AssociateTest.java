/** Promise 12: associate. */
public final class AssociateTest {
    /** What S needs from (100, 100, 0) to each station of the square. */
    private static final int S_NEEDS = 14417;

    private AssociateTest() {
    }

    public static void main(String[] args) {
        nothingThere();
        allPicksHaveEvents();
        opensAnEvent();
        threeCompanionsAreEnough();
        twoCompanionsAreTooFew();
        picksOfSAreNoCompanions();
        picksOfSOpenNoEvent();
        companionsAtTheirLimitOfTime();
        companionsComeBehind();
        companionsOfTheSameTime();
        ownStationIsNoCompanion();
        aStationGivesOneCompanion();
        companionsAreTheFirstOfTheirStations();
        firstOfTheSameTimeIsTheSmallerNumber();
        picksWithAnEventAreNoCompanions();
        aPickThatJoinsOpensNoEvent();
        aPickTooFarFromItsHostOpensAnEvent();
        twoEventsInOneCall();
        newEventIsHostInTheSameCall();
        newEventHasTenPicks();
        goesThroughByTime();
        goesThroughByNumberAtTheSameTime();
        joinsAtTheLimit();
        joinsTheLeastDifference();
        joinsTheOneNearerByOne();
        joinsTheSmallestNumberOfEqualOnes();
        joinsTheNextOneIfTheNearestHasTheWave();
        joinsWithTheOtherWave();
        eventsNotFoundAreNoHosts();
        hostStaysAsItIs();
        elevenEvents();
        twelveEvents();
        twelveEventsStillHost();
        countsAllThatGotAnEvent();
        Check.end();
    }

    private static void quake(QuakeBench bench, int time) {
        for (int station = 0; station < 4; station++) {
            bench.addPick(station, false, time + 8333);
        }
    }

    private static void associate(QuakeBench bench, int want) {
        Check.due("associate()", bench.associate(), want);
    }

    /** The square with events at (100, 100, 0) and these times, which have the picks of P. */
    private static QuakeBench foundAt(int... times) {
        QuakeBench bench = Benches.square();
        for (int time : times) {
            Benches.quake(bench, 100, 100, 0, time);
        }
        return bench;
    }

    // ---- new events

    private static void nothingThere() {
        associate(new QuakeBench(), 0);
        QuakeBench bench = Benches.square();
        bench.addEvent();
        associate(bench, 0);
        Check.due("count(2)", bench.count(2), 1);
    }

    private static void allPicksHaveEvents() {
        QuakeBench bench = foundAt(1000, 90000);
        long before = bench.digest();
        associate(bench, 0);
        Check.due("digest()", bench.digest(), before);
    }

    private static void opensAnEvent() {
        QuakeBench bench = Benches.square();
        bench.addEvent();
        quake(bench, 1000);
        associate(bench, 4);
        Check.eventsOfPicks(bench, 1, 1, 1, 1);
        Check.due("count(2)", bench.count(2), 2);
        Check.due("count(3)", bench.count(3), 1);
        Check.found(bench, 1, 100, 100, 0, 1000, 4, 4);
        associate(bench, 0);
    }

    /** "If there are at least 3 of them". */
    private static void threeCompanionsAreEnough() {
        QuakeBench bench = Benches.square();
        quake(bench, 1000);
        associate(bench, 4);
        Check.eventsOfPicks(bench, 0, 0, 0, 0);
    }

    private static void twoCompanionsAreTooFew() {
        QuakeBench bench = Benches.square();
        bench.addPick(0, false, 9000);
        bench.addPick(1, false, 9000);
        bench.addPick(2, false, 9000);
        associate(bench, 0);
        Check.eventsOfPicks(bench, -1, -1, -1);
        Check.due("count(2)", bench.count(2), 0);
    }

    private static void picksOfSAreNoCompanions() {
        QuakeBench bench = Benches.square();
        bench.addPick(0, false, 9000);
        bench.addPick(1, false, 9000);
        bench.addPick(2, false, 9000);
        bench.addPick(3, true, 9000);
        associate(bench, 0);
        bench.addPick(3, false, 9001);
        associate(bench, 4);
        Check.eventsOfPicks(bench, 0, 0, 0, -1, 0);
    }

    private static void picksOfSOpenNoEvent() {
        QuakeBench bench = Benches.square();
        bench.addPick(0, true, 8000);
        for (int station = 1; station < 4; station++) {
            bench.addPick(station, false, 9000);
            bench.addPick(station, true, 9000);
        }
        associate(bench, 0);
        Check.due("count(2)", bench.count(2), 0);
        Check.due("count(4)", bench.count(4), 7);
    }

    /** "whose time is at most 40000 greater". */
    private static void companionsAtTheirLimitOfTime() {
        QuakeBench bench = Benches.square();
        bench.addPick(0, false, 1000);
        bench.addPick(1, false, 1000);
        bench.addPick(2, false, 1000);
        bench.addPick(3, false, 41001);
        associate(bench, 0);
        bench.addPick(3, false, 41000);
        associate(bench, 4);
        Check.eventsOfPicks(bench, 0, 0, 0, -1, 0);
    }

    /** "that come behind it in this order": 40005 is too late for the first pick, which is ahead of the second. */
    private static void companionsComeBehind() {
        QuakeBench bench = Benches.square();
        bench.addPick(0, false, 0);
        bench.addPick(1, false, 10);
        bench.addPick(2, false, 20);
        bench.addPick(3, false, 40005);
        associate(bench, 0);
        Check.due("count(2)", bench.count(2), 0);
    }

    private static void companionsOfTheSameTime() {
        QuakeBench bench = Benches.square();
        bench.addPick(3, false, 0);
        bench.addPick(2, false, 0);
        bench.addPick(1, false, 0);
        bench.addPick(0, false, 0);
        associate(bench, 4);
        Check.eventsOfPicks(bench, 0, 0, 0, 0);
    }

    private static void ownStationIsNoCompanion() {
        QuakeBench bench = Benches.square();
        bench.addPick(0, false, 0);
        bench.addPick(0, false, 10);
        bench.addPick(1, false, 20);
        bench.addPick(2, false, 30);
        associate(bench, 0);
        Check.due("count(2)", bench.count(2), 0);
    }

    private static void aStationGivesOneCompanion() {
        QuakeBench bench = Benches.square();
        bench.addPick(0, false, 0);
        bench.addPick(1, false, 10);
        bench.addPick(1, false, 20);
        bench.addPick(2, false, 30);
        associate(bench, 0);
        Check.due("count(2)", bench.count(2), 0);
    }

    /** "of each station the first one": the order is that of times, whatever the numbers. */
    private static void companionsAreTheFirstOfTheirStations() {
        QuakeBench bench = Benches.square();
        bench.addPick(1, false, 30000);
        bench.addPick(1, false, 9500);
        bench.addPick(0, false, 9000);
        bench.addPick(2, false, 9300);
        bench.addPick(2, false, 29300);
        bench.addPick(3, false, 30000);
        associate(bench, 4);
        Check.eventsOfPicks(bench, -1, 0, 0, 0, -1, 0);
    }

    private static void firstOfTheSameTimeIsTheSmallerNumber() {
        QuakeBench bench = Benches.square();
        bench.addPick(1, false, 9333);
        bench.addPick(1, false, 9333);
        bench.addPick(2, false, 9333);
        bench.addPick(2, false, 9333);
        bench.addPick(3, false, 9333);
        bench.addPick(0, false, 9333);
        bench.addPick(0, false, 9333);
        associate(bench, 4);
        Check.eventsOfPicks(bench, 0, -1, 0, -1, 0, 0, -1);
    }

    private static void picksWithAnEventAreNoCompanions() {
        QuakeBench bench = Benches.square();
        quake(bench, 1000);
        bench.addEvent();
        bench.give(3, 0);
        associate(bench, 0);
        Check.eventsOfPicks(bench, -1, -1, -1, 0);
        bench.give(3, -1);
        associate(bench, 4);
        Check.eventsOfPicks(bench, 1, 1, 1, 1);
    }

    /** The stations 1 to 3 have an event at 1000 and later picks of P; that of the station 0 is this much late for it. */
    private static QuakeBench hostOrCompanions(int late) {
        QuakeBench bench = Benches.square();
        bench.addEvent();
        for (int station = 1; station < 4; station++) {
            bench.give(bench.addPick(station, false, 9333), 0);
        }
        bench.seek(0);
        Check.found(bench, 0, 100, 100, 0, 1000);
        bench.addPick(0, false, 9333 + late);
        for (int station = 1; station < 4; station++) {
            bench.addPick(station, false, 30000);
        }
        return bench;
    }

    /** "(2) If there is none": a pick that has a host takes no companions, though there are three of them. */
    private static void aPickThatJoinsOpensNoEvent() {
        QuakeBench bench = hostOrCompanions(1500);
        associate(bench, 1);
        Check.eventsOfPicks(bench, 0, 0, 0, 0, -1, -1, -1);
        Check.due("count(2)", bench.count(2), 1);
    }

    private static void aPickTooFarFromItsHostOpensAnEvent() {
        QuakeBench bench = hostOrCompanions(1501);
        associate(bench, 4);
        Check.eventsOfPicks(bench, 0, 0, 0, 1, 1, 1, 1);
        Check.due("count(3)", bench.count(3), 2);
    }

    /** The companions of the first event are gone for the second one; they are not looked at again. */
    private static void twoEventsInOneCall() {
        QuakeBench bench = Benches.square();
        quake(bench, 10000);
        quake(bench, 1000);
        associate(bench, 8);
        Check.eventsOfPicks(bench, 1, 1, 1, 1, 0, 0, 0, 0);
        Check.found(bench, 0, 100, 100, 0, 1000);
        Check.found(bench, 1, 100, 100, 0, 10000);
    }

    private static void newEventIsHostInTheSameCall() {
        QuakeBench bench = Benches.square();
        for (int station = 0; station < 4; station++) {
            bench.addPick(station, true, 1000 + S_NEEDS);
        }
        quake(bench, 1000);
        associate(bench, 8);
        Check.eventsOfPicks(bench, 0, 0, 0, 0, 0, 0, 0, 0);
        Check.found(bench, 0, 100, 100, 0, 1000, 8, 4);
    }

    /** The most that one event may open with: a pick and nine companions. */
    private static void newEventHasTenPicks() {
        QuakeBench bench = new QuakeBench();
        for (int k = 0; k < 10; k++) {
            bench.addStation(0, 0);
            bench.addPick(k, false, 100 * k);
        }
        associate(bench, 10);
        // Of 40 starts the one with the number 19.
        Check.found(bench, 0, 0, 0, 0, 400, 10, 10);
    }

    // ---- the order

    private static void goesThroughByTime() {
        QuakeBench bench = foundAt(100000);
        bench.addPick(0, true, 100500 + S_NEEDS);
        bench.addPick(0, true, 99000 + S_NEEDS);
        associate(bench, 1);
        Check.eventsOfPicks(bench, 0, 0, 0, 0, -1, 0);
    }

    /** "of the same time of their numbers", also if the greater number had been there before. */
    private static void goesThroughByNumberAtTheSameTime() {
        QuakeBench bench = foundAt(100000);
        bench.addEvent();
        bench.addPick(0, true, 100000 + S_NEEDS);
        bench.addPick(0, true, 100000 + S_NEEDS);
        bench.give(4, 1);
        bench.setWeight(0, 4);
        associate(bench, 0);
        bench.give(4, -1);
        bench.seek(0);
        associate(bench, 1);
        Check.eventsOfPicks(bench, 0, 0, 0, 0, 0, -1);
    }

    // ---- events that are there

    /** "if this is at most 1500", without sign. */
    private static void joinsAtTheLimit() {
        QuakeBench bench = foundAt(100000);
        bench.addPick(0, true, 100000 + S_NEEDS + 1501);
        bench.addPick(1, true, 100000 + S_NEEDS + 1500);
        bench.addPick(2, true, 100000 + S_NEEDS - 1500);
        bench.addPick(3, true, 100000 + S_NEEDS - 1501);
        associate(bench, 2);
        Check.eventsOfPicks(bench, 0, 0, 0, 0, -1, 0, 0, -1);
        Check.due("residual(5)", bench.residual(5), 1500);
        Check.due("residual(6)", bench.residual(6), -1500);
    }

    private static void joinsTheLeastDifference() {
        QuakeBench bench = foundAt(100000, 102000);
        bench.addPick(0, true, 101001 + S_NEEDS);
        bench.addPick(1, true, 100999 + S_NEEDS);
        associate(bench, 2);
        Check.eventsOfPicks(bench, 0, 0, 0, 0, 1, 1, 1, 1, 1, 0);
    }

    /** A difference less by 1 ms is less, whichever event comes first. */
    private static void joinsTheOneNearerByOne() {
        QuakeBench bench = foundAt(100000, 102001);
        bench.addPick(0, true, 101000 + S_NEEDS);
        bench.addPick(1, true, 101001 + S_NEEDS);
        associate(bench, 2);
        Check.eventsOfPicks(bench, 0, 0, 0, 0, 1, 1, 1, 1, 0, 1);
    }

    /** "of several to the one with the smallest number". */
    private static void joinsTheSmallestNumberOfEqualOnes() {
        QuakeBench bench = foundAt(102000, 100000);
        bench.addPick(0, true, 101000 + S_NEEDS);
        associate(bench, 1);
        Check.eventsOfPicks(bench, 0, 0, 0, 0, 1, 1, 1, 1, 0);
    }

    /** "that has no pick of its station and wave". */
    private static void joinsTheNextOneIfTheNearestHasTheWave() {
        QuakeBench bench = foundAt(100000, 101000);
        for (int k = 0; k < 3; k++) {
            bench.addPick(0, true, 100000 + S_NEEDS);
        }
        associate(bench, 2);
        Check.eventsOfPicks(bench, 0, 0, 0, 0, 1, 1, 1, 1, 0, 1, -1);
    }

    private static void joinsWithTheOtherWave() {
        QuakeBench bench = foundAt(100000);
        bench.addPick(0, false, 100000 + 8333);
        bench.addPick(0, true, 100000 + S_NEEDS);
        associate(bench, 1);
        Check.eventsOfPicks(bench, 0, 0, 0, 0, -1, 0);
    }

    private static void eventsNotFoundAreNoHosts() {
        QuakeBench bench = foundAt(100000, 101400);
        bench.setWeight(0, 4);
        bench.addPick(0, true, 100000 + S_NEEDS);
        bench.addPick(1, true, 99899 + S_NEEDS);
        associate(bench, 1);
        Check.eventsOfPicks(bench, 0, 0, 0, 0, 1, 1, 1, 1, 1, -1);
    }

    /** "This event stays found, at the same place and time", though seek would now tell another time. */
    private static void hostStaysAsItIs() {
        QuakeBench bench = foundAt(100000);
        for (int station = 0; station < 4; station++) {
            bench.addPick(station, true, 100000 + S_NEEDS - 1400);
        }
        associate(bench, 4);
        Check.due("count(3)", bench.count(3), 1);
        Check.found(bench, 0, 100, 100, 0, 100000, 8, 4);
        bench.seek(0);
        if (bench.event(0, 3) == 100000) {
            Check.tell("seek(0) tells the same time with four picks more");
        }
    }

    // ---- how many events

    /** "and less than 12 events". */
    private static void elevenEvents() {
        QuakeBench bench = Benches.square();
        for (int k = 0; k < 11; k++) {
            bench.addEvent();
        }
        quake(bench, 500000);
        quake(bench, 600000);
        associate(bench, 4);
        Check.eventsOfPicks(bench, 11, 11, 11, 11, -1, -1, -1, -1);
        Check.due("count(2)", bench.count(2), 12);
        Check.found(bench, 11, 100, 100, 0, 500000);
        Check.refused(bench, "addEvent()", Check.STATE, bench::addEvent);
    }

    private static void twelveEvents() {
        QuakeBench bench = Benches.square();
        for (int k = 0; k < 12; k++) {
            bench.addEvent();
        }
        quake(bench, 500000);
        associate(bench, 0);
        Check.eventsOfPicks(bench, -1, -1, -1, -1);
        Check.due("count(2)", bench.count(2), 12);
        Check.due("count(3)", bench.count(3), 0);
    }

    /** A pick that opens no event for want of room keeps no later one from a host. */
    private static void twelveEventsStillHost() {
        QuakeBench bench = foundAt(600000);
        for (int k = 1; k < 12; k++) {
            bench.addEvent();
        }
        quake(bench, 500000);
        bench.addPick(2, true, 600000 + S_NEEDS);
        associate(bench, 1);
        Check.eventsOfPicks(bench, 0, 0, 0, 0, -1, -1, -1, -1, 0);
    }

    /** "Returns how many picks got an event": by both ways, and none of those that stay without. */
    private static void countsAllThatGotAnEvent() {
        QuakeBench bench = foundAt(100000);
        quake(bench, 300000);
        bench.addPick(0, true, 100000 + S_NEEDS);
        bench.addPick(1, true, 300000 + S_NEEDS);
        bench.addPick(1, true, 200000);
        bench.addPick(1, false, 200000);
        associate(bench, 6);
        Check.due("count(4)", bench.count(4), 2);
        Check.eventsOfPicks(bench, 0, 0, 0, 0, 1, 1, 1, 1, 0, 1, -1, -1);
    }
}
