/** Promise 12: associate. */
public final class AssociateTest {
    private AssociateTest() {
    }

    public static void main(String[] args) {
        nothingToDo();
        opensAnEvent();
        needsThreeCompanions();
        companionsAtTheirLimit();
        companionsAreTheFirstOfTheirStations();
        joinsAtTheLimit();
        joinsTheNearestEvent();
        joinsTheSmallestNumberOfEqualOnes();
        goesByTimeAndNumber();
        goesByNumberAfterAnEarlierCall();
        atMostTwelveEvents();
        Check.end();
    }

    private static void quake(QuakeBench bench, int time) {
        for (int station = 0; station < 4; station++) {
            bench.addPick(station, false, time + 8333);
        }
    }

    private static void events(QuakeBench bench, int... want) {
        for (int pick = 0; pick < want.length; pick++) {
            Check.due("pick(" + pick + ", 4)", bench.pick(pick, 4), want[pick]);
        }
        Check.due("count(1)", bench.count(1), want.length);
    }

    private static void nothingToDo() {
        QuakeBench bench = new QuakeBench();
        Check.due("associate() of nothing", bench.associate(), 0);
        Check.due("count(2)", bench.count(2), 0);
    }

    private static void opensAnEvent() {
        QuakeBench bench = Benches.square();
        quake(bench, 1000);
        Check.due("associate()", bench.associate(), 4);
        events(bench, 0, 0, 0, 0);
        Check.due("count(3)", bench.count(3), 1);
        Check.due("event(0, 0)", bench.event(0, 0), 100);
        Check.due("event(0, 1)", bench.event(0, 1), 100);
        Check.due("event(0, 2)", bench.event(0, 2), 0);
        Check.due("event(0, 3)", bench.event(0, 3), 1000);
        Check.due("associate() again", bench.associate(), 0);
    }

    private static void needsThreeCompanions() {
        QuakeBench bench = Benches.square();
        bench.addPick(0, false, 9000);
        bench.addPick(1, false, 9000);
        bench.addPick(2, false, 9000);
        bench.addPick(3, true, 9000);
        bench.addPick(0, false, 9001);
        Check.due("associate() with 2 companions", bench.associate(), 0);
        Check.due("count(2)", bench.count(2), 0);
        bench.addPick(3, false, 8999);
        Check.due("associate() with 3 companions", bench.associate(), 4);
        events(bench, 0, 0, 0, -1, -1, 0);
    }

    private static void companionsAtTheirLimit() {
        QuakeBench bench = Benches.square();
        bench.addPick(0, false, 1000);
        bench.addPick(1, false, 1000);
        bench.addPick(2, false, 1000);
        bench.addPick(3, false, 41001);
        Check.due("associate(), 40001 greater", bench.associate(), 0);
        bench.addPick(3, false, 41000);
        Check.due("associate(), 40000 greater", bench.associate(), 4);
        events(bench, 0, 0, 0, -1, 0);
    }

    private static void companionsAreTheFirstOfTheirStations() {
        QuakeBench bench = Benches.square();
        bench.addPick(1, false, 12000);
        bench.addPick(1, false, 9500);
        bench.addPick(0, false, 9000);
        bench.addPick(0, false, 9200);
        bench.addPick(2, false, 9300);
        bench.addPick(2, false, 9300);
        bench.addPick(3, true, 9100);
        bench.addPick(3, false, 30000);
        int got = bench.associate();
        Check.due("pick(1, 4)", bench.pick(1, 4), 0);
        Check.due("pick(2, 4)", bench.pick(2, 4), 0);
        Check.due("pick(4, 4)", bench.pick(4, 4), 0);
        Check.due("pick(7, 4)", bench.pick(7, 4), 0);
        Check.due("pick(0, 4)", bench.pick(0, 4), -1);
        Check.due("pick(3, 4)", bench.pick(3, 4), -1);
        Check.due("pick(5, 4)", bench.pick(5, 4), -1);
        Check.due("associate() and what is without an event", got + bench.count(4), 8);
    }

    private static void joinsAtTheLimit() {
        QuakeBench bench = Benches.square();
        quake(bench, 100000);
        bench.addPick(0, true, 100000 + 14417 + 1501);
        bench.addPick(1, true, 100000 + 14417 + 1500);
        bench.addPick(2, true, 100000 + 14417 - 1500);
        bench.addPick(3, true, 100000 + 14417 - 1501);
        Check.due("needs for S", bench.needs(0, 100, 100, 0, true), 14417);
        Check.due("associate()", bench.associate(), 6);
        events(bench, 0, 0, 0, 0, -1, 0, 0, -1);
        Check.due("count(3)", bench.count(3), 1);
        Check.due("event(0, 3)", bench.event(0, 3), 100000);
        Check.due("residual(5)", bench.residual(5), 1500);
        Check.due("residual(6)", bench.residual(6), -1500);
        Check.due("event(0, 4)", bench.event(0, 4), 6);
        bench.addPick(1, true, 100000 + 14417);
        Check.due("associate() with the wave there", bench.associate(), 0);
        bench.setWeight(0, 4);
        bench.addPick(0, true, 100000 + 14417);
        Check.due("associate() with an event that is not found", bench.associate(), 0);
    }

    private static void joinsTheNearestEvent() {
        QuakeBench bench = Benches.square();
        quake(bench, 100000);
        quake(bench, 102000);
        Check.due("associate()", bench.associate(), 8);
        bench.addPick(0, true, 101001 + 14417);
        bench.addPick(1, true, 100999 + 14417);
        Check.due("associate() of S", bench.associate(), 2);
        events(bench, 0, 0, 0, 0, 1, 1, 1, 1, 1, 0);
        Check.due("residual(8)", bench.residual(8), -999);
        Check.due("residual(9)", bench.residual(9), 999);
    }

    private static void joinsTheSmallestNumberOfEqualOnes() {
        QuakeBench bench = Benches.square();
        quake(bench, 100000);
        quake(bench, 102000);
        bench.associate();
        bench.addPick(0, true, 101000 + 14417);
        bench.addPick(0, true, 101000 + 14417);
        bench.addPick(0, true, 101000 + 14417);
        Check.due("associate() of S", bench.associate(), 2);
        events(bench, 0, 0, 0, 0, 1, 1, 1, 1, 0, 1, -1);
    }

    private static void goesByTimeAndNumber() {
        QuakeBench bench = Benches.square();
        quake(bench, 100000);
        bench.associate();
        bench.addPick(0, true, 100500 + 14417);
        bench.addPick(0, true, 99000 + 14417);
        bench.addPick(0, true, 99000 + 14417);
        Check.due("associate()", bench.associate(), 1);
        events(bench, 0, 0, 0, 0, -1, 0, -1);
    }

    private static void goesByNumberAfterAnEarlierCall() {
        QuakeBench bench = Benches.square();
        quake(bench, 100000);
        bench.associate();
        bench.addEvent();
        bench.addPick(0, true, 100000 + 14417);
        bench.addPick(0, true, 100000 + 14417);
        bench.give(4, 1);
        bench.setWeight(0, 4);
        Check.due("associate() with no found event", bench.associate(), 0);
        bench.give(4, -1);
        bench.seek(0);
        Check.due("associate() with a pick that came back", bench.associate(), 1);
        events(bench, 0, 0, 0, 0, 0, -1);
    }

    private static void atMostTwelveEvents() {
        QuakeBench bench = Benches.square();
        for (int k = 0; k < 11; k++) {
            bench.addEvent();
        }
        quake(bench, 500000);
        quake(bench, 600000);
        Check.due("associate() with 11 events", bench.associate(), 4);
        events(bench, 11, 11, 11, 11, -1, -1, -1, -1);
        Check.due("count(2)", bench.count(2), 12);
        Check.due("count(3)", bench.count(3), 1);
    }
}
