/** Promises 7 to 11 and 13: addPick, setWeight, pick, addEvent, give, count. */
public final class PicksAndEventsTest {
    private PicksAndEventsTest() {
    }

    public static void main(String[] args) {
        addPick();
        setWeight();
        pick();
        addEvent();
        give();
        count();
        whatLosesAnEvent();
        Check.end();
    }

    private static QuakeBench threeStations() {
        QuakeBench bench = new QuakeBench();
        bench.addStation(50, 50);
        bench.addStation(150, 50);
        bench.addStation(50, 150);
        return bench;
    }

    private static void addPick() {
        QuakeBench bench = threeStations();
        Check.refused(bench, "addPick(3, false, -1)", Check.OUTSIDE, () -> bench.addPick(3, false, -1));
        Check.refused(bench, "addPick(-1, false, 0)", Check.OUTSIDE, () -> bench.addPick(-1, false, 0));
        Check.refused(bench, "addPick(0, false, -1)", Check.WRONG, () -> bench.addPick(0, false, -1));
        Check.refused(bench, "addPick(0, true, 10000001)", Check.WRONG, () -> bench.addPick(0, true, 10000001));
        for (int k = 0; k < 80; k++) {
            Check.due("addPick", bench.addPick(k % 3, k % 2 == 1, k * 126582), k);
        }
        Check.due("addPick's weight", bench.pick(79, 3), 4);
        Check.due("addPick's event", bench.pick(79, 4), -1);
        Check.refused(bench, "addPick, the 81st", Check.STATE, () -> bench.addPick(0, false, 0));
        Check.refused(bench, "addPick, the 81st, too late", Check.WRONG, () -> bench.addPick(0, false, 10000001));
        Check.refused(bench, "addPick, the 81st, no station", Check.OUTSIDE, () -> bench.addPick(3, false, 0));
        Check.due("count(1)", bench.count(1), 80);
    }

    private static void setWeight() {
        QuakeBench bench = threeStations();
        bench.addPick(0, false, 5);
        Check.due("setWeight(0, 1)", bench.setWeight(0, 1), 4);
        Check.due("setWeight(0, 4)", bench.setWeight(0, 4), 1);
        Check.refused(bench, "setWeight(0, 0)", Check.WRONG, () -> bench.setWeight(0, 0));
        Check.refused(bench, "setWeight(0, 5)", Check.WRONG, () -> bench.setWeight(0, 5));
        Check.refused(bench, "setWeight(1, 5)", Check.OUTSIDE, () -> bench.setWeight(1, 5));
        Check.refused(bench, "setWeight(-1, 1)", Check.OUTSIDE, () -> bench.setWeight(-1, 1));
        Check.due("pick(0, 3)", bench.pick(0, 3), 4);
    }

    private static void pick() {
        QuakeBench bench = threeStations();
        bench.addPick(0, false, 0);
        bench.addPick(2, true, 10000000);
        bench.setWeight(1, 3);
        bench.addEvent();
        bench.addEvent();
        bench.give(1, 1);
        int[] want = {2, 1, 10000000, 3, 1};
        for (int what = 0; what <= 4; what++) {
            Check.due("pick(1, " + what + ")", bench.pick(1, what), want[what]);
        }
        Check.due("pick(0, 1)", bench.pick(0, 1), 0);
        Check.due("pick(0, 4)", bench.pick(0, 4), -1);
        Check.refused(bench, "pick(2, 0)", Check.OUTSIDE, () -> bench.pick(2, 0));
        Check.refused(bench, "pick(-1, 0)", Check.OUTSIDE, () -> bench.pick(-1, 0));
        Check.refused(bench, "pick(0, -1)", Check.OUTSIDE, () -> bench.pick(0, -1));
        Check.refused(bench, "pick(0, 5)", Check.OUTSIDE, () -> bench.pick(0, 5));
    }

    private static void addEvent() {
        QuakeBench bench = new QuakeBench();
        for (int k = 0; k < 12; k++) {
            Check.due("addEvent()", bench.addEvent(), k);
        }
        Check.due("event(11, 4)", bench.event(11, 4), 0);
        Check.due("event(11, 5)", bench.event(11, 5), 0);
        Check.refused(bench, "addEvent(), the 13th", Check.STATE, bench::addEvent);
        Check.due("count(2)", bench.count(2), 12);
        Check.due("count(3)", bench.count(3), 0);
    }

    private static void give() {
        QuakeBench bench = threeStations();
        bench.addPick(0, false, 0);
        bench.addPick(0, true, 0);
        bench.addPick(0, false, 7);
        bench.addPick(1, false, 0);
        Check.refused(bench, "give(0, 0) without events", Check.OUTSIDE, () -> bench.give(0, 0));
        bench.addEvent();
        bench.addEvent();
        Check.due("give(0, -1)", bench.give(0, -1), -1);
        Check.due("give(0, 0)", bench.give(0, 0), -1);
        Check.due("give(0, 0) again", bench.give(0, 0), 0);
        Check.due("event(0, 4)", bench.event(0, 4), 1);
        Check.due("give(1, 0), another wave", bench.give(1, 0), -1);
        Check.due("give(3, 0), another station", bench.give(3, 0), -1);
        Check.refused(bench, "give(2, 0)", Check.STATE, () -> bench.give(2, 0));
        Check.due("give(2, 1)", bench.give(2, 1), -1);
        Check.refused(bench, "give(2, 0) from 1", Check.STATE, () -> bench.give(2, 0));
        Check.due("give(0, -1)", bench.give(0, -1), 0);
        Check.due("give(2, 0) after", bench.give(2, 0), 1);
        Check.due("event(0, 4)", bench.event(0, 4), 3);
        Check.due("event(0, 5)", bench.event(0, 5), 2);
        Check.due("event(1, 4)", bench.event(1, 4), 0);
        Check.refused(bench, "give(4, 0)", Check.OUTSIDE, () -> bench.give(4, 0));
        Check.refused(bench, "give(-1, 0)", Check.OUTSIDE, () -> bench.give(-1, 0));
        Check.refused(bench, "give(0, -2)", Check.OUTSIDE, () -> bench.give(0, -2));
        Check.refused(bench, "give(0, 2)", Check.OUTSIDE, () -> bench.give(0, 2));
    }

    private static void count() {
        QuakeBench bench = found();
        bench.addEvent();
        bench.addPick(0, true, 0);
        int[] want = {3, 4, 2, 1, 1};
        for (int what = 0; what <= 4; what++) {
            Check.due("count(" + what + ")", bench.count(what), want[what]);
        }
        Check.refused(bench, "count(-1)", Check.OUTSIDE, () -> bench.count(-1));
        Check.refused(bench, "count(5)", Check.OUTSIDE, () -> bench.count(5));
    }

    private static QuakeBench found() {
        QuakeBench bench = threeStations();
        bench.addEvent();
        for (int k = 0; k < 3; k++) {
            bench.addPick(k, false, 20000);
            bench.give(k, 0);
        }
        bench.seek(0);
        return bench;
    }

    private static void stillFound(QuakeBench bench, String after, boolean want) {
        Check.due("count(3) after " + after, bench.count(3), want ? 1 : 0);
        if (!want && bench.event(0, 5) >= 3) {
            bench.seek(0);
        }
    }

    private static void whatLosesAnEvent() {
        QuakeBench bench = found();
        bench.addStation(1, 1);
        bench.addPick(3, false, 20000);
        bench.addEvent();
        stillFound(bench, "adding", true);
        bench.setDelay(3, 5);
        stillFound(bench, "setDelay of a station without picks of it", true);
        bench.setWeight(3, 2);
        stillFound(bench, "setWeight of a pick without an event", true);
        bench.give(3, 1);
        stillFound(bench, "give to another event", true);
        bench.setAmplitude(0, 5);
        stillFound(bench, "setAmplitude", true);
        bench.misfit(0, 1, 2, 3);
        stillFound(bench, "misfit", true);
        bench.setDelay(1, 0);
        stillFound(bench, "setDelay as before", false);
        bench.setSpeeds(6000, 173);
        stillFound(bench, "setSpeeds as before", false);
        bench.setWeight(2, 4);
        stillFound(bench, "setWeight as before", false);
        bench.give(0, 0);
        stillFound(bench, "give to its own event", false);
        bench.give(3, 0);
        stillFound(bench, "give from another event", false);
        bench.give(3, 1);
        stillFound(bench, "give to another event", false);
        bench.give(2, -1);
        stillFound(bench, "give to none", false);
        Check.refused(bench, "seek(0) with 2 stations", Check.STATE, () -> bench.seek(0));
    }
}
