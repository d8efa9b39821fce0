/** Promises 7 to 9: addPick, setWeight, pick. */
public final class PicksTest {
    private PicksTest() {
    }

    public static void main(String[] args) {
        picksAreNumberedFromNought();
        leastAndGreatestTime();
        timeBeyond();
        pickOfNoStation();
        eightyPicksAndNoMore();
        whatIsNamedFirstOfThree();
        refusedPickTakesNoPlace();
        whatANewPickHas();
        picksMayBeAlike();
        leastAndGreatestWeight();
        weightBeyond();
        weightBeforeIsReturned();
        weightIsOfItsPickAlone();
        weightOfNoPick();
        pickTellsAll();
        pickTellsWhatIsNot();
        pickOfNoNumber();
        Check.end();
    }

    private static QuakeBench twoPicks() {
        QuakeBench bench = Benches.square();
        bench.addPick(0, false, 5);
        bench.addPick(3, true, 7);
        return bench;
    }

    // ---- addPick

    private static void picksAreNumberedFromNought() {
        QuakeBench bench = Benches.square();
        for (int k = 0; k < 80; k++) {
            Check.due("addPick, the number " + k, bench.addPick(k % 4, k % 3 == 0, k), k);
        }
        for (int k = 0; k < 80; k++) {
            Check.due("pick(" + k + ", 2)", bench.pick(k, 2), k);
        }
    }

    /** "a time, 0 to 10000000". */
    private static void leastAndGreatestTime() {
        QuakeBench bench = Benches.square();
        Check.due("addPick(0, false, 0)", bench.addPick(0, false, 0), 0);
        Check.due("addPick(0, false, 10000000)", bench.addPick(0, false, 10000000), 1);
        Check.due("pick(0, 2)", bench.pick(0, 2), 0);
        Check.due("pick(1, 2)", bench.pick(1, 2), 10000000);
    }

    private static void timeBeyond() {
        QuakeBench bench = Benches.square();
        for (int beyond : Check.beyond(0, 10000000)) {
            String call = "addPick(0, false, " + beyond + ")";
            Check.refused(bench, call, Check.WRONG, () -> bench.addPick(0, false, beyond));
        }
    }

    private static void pickOfNoStation() {
        QuakeBench bench = Benches.square();
        Check.due("addPick(3, true, 0), the last station", bench.addPick(3, true, 0), 0);
        for (int beyond : Check.beyond(0, 3)) {
            String call = "addPick(" + beyond + ", true, ";
            Check.refused(bench, call + "0)", Check.OUTSIDE, () -> bench.addPick(beyond, true, 0));
            Check.refused(bench, call + "-1)", Check.OUTSIDE, () -> bench.addPick(beyond, true, -1));
        }
    }

    /** "There are at most 80". */
    private static void eightyPicksAndNoMore() {
        QuakeBench bench = Benches.square();
        for (int k = 0; k < 80; k++) {
            bench.addPick(0, false, k);
        }
        Check.refused(bench, "addPick, the 81st", Check.STATE, () -> bench.addPick(0, false, 0));
        Check.due("count(1)", bench.count(1), 80);
        Check.due("pick(79, 2)", bench.pick(79, 2), 79);
        Check.refused(bench, "pick(80, 2)", Check.OUTSIDE, () -> bench.pick(80, 2));
    }

    private static void whatIsNamedFirstOfThree() {
        QuakeBench bench = Benches.square();
        for (int k = 0; k < 80; k++) {
            bench.addPick(0, false, k);
        }
        Check.refused(bench, "addPick, the 81st, too late", Check.WRONG, () -> bench.addPick(0, false, 10000001));
        Check.refused(bench, "addPick, the 81st, too early", Check.WRONG, () -> bench.addPick(0, false, -1));
        Check.refused(bench, "addPick, the 81st, no station", Check.OUTSIDE, () -> bench.addPick(4, false, 0));
        Check.refused(bench, "addPick, all three", Check.OUTSIDE, () -> bench.addPick(-1, false, -1));
    }

    private static void refusedPickTakesNoPlace() {
        QuakeBench bench = Benches.square();
        Check.refused(bench, "addPick(4, false, 0)", Check.OUTSIDE, () -> bench.addPick(4, false, 0));
        Check.refused(bench, "addPick(0, false, -1)", Check.WRONG, () -> bench.addPick(0, false, -1));
        Check.due("count(1)", bench.count(1), 0);
        Check.due("addPick after refused ones", bench.addPick(0, false, 0), 0);
    }

    /** "Adds a pick with the weight 4 that has no event." */
    private static void whatANewPickHas() {
        QuakeBench bench = twoPicks();
        bench.addEvent();
        Check.due("the weight of a new pick", bench.pick(1, 3), 4);
        Check.due("the event of a new pick", bench.pick(1, 4), -1);
        Check.due("the amplitude of a new pick", bench.setAmplitude(1, 1), 0);
    }

    private static void picksMayBeAlike() {
        QuakeBench bench = twoPicks();
        Check.due("addPick(3, true, 7) again", bench.addPick(3, true, 7), 2);
    }

    // ---- setWeight

    /** "a weight, 1 to 4". */
    private static void leastAndGreatestWeight() {
        QuakeBench bench = twoPicks();
        for (int weight = 1; weight <= 4; weight++) {
            bench.setWeight(0, weight);
            Check.due("pick(0, 3)", bench.pick(0, 3), weight);
        }
    }

    private static void weightBeyond() {
        QuakeBench bench = twoPicks();
        for (int beyond : Check.beyond(1, 4)) {
            Check.refused(bench, "setWeight(0, " + beyond + ")", Check.WRONG, () -> bench.setWeight(0, beyond));
        }
        Check.due("pick(0, 3)", bench.pick(0, 3), 4);
    }

    private static void weightBeforeIsReturned() {
        QuakeBench bench = twoPicks();
        Check.due("setWeight(0, 1)", bench.setWeight(0, 1), 4);
        Check.due("setWeight(0, 1) again", bench.setWeight(0, 1), 1);
        Check.due("setWeight(0, 4)", bench.setWeight(0, 4), 1);
    }

    private static void weightIsOfItsPickAlone() {
        QuakeBench bench = twoPicks();
        bench.setWeight(1, 2);
        Check.due("pick(0, 3)", bench.pick(0, 3), 4);
        Check.due("pick(1, 3)", bench.pick(1, 3), 2);
    }

    private static void weightOfNoPick() {
        QuakeBench bench = twoPicks();
        Check.due("setWeight(1, 1), the last pick", bench.setWeight(1, 1), 4);
        for (int beyond : Check.beyond(0, 1)) {
            Check.refused(bench, "setWeight(" + beyond + ", 1)", Check.OUTSIDE, () -> bench.setWeight(beyond, 1));
            Check.refused(bench, "setWeight(" + beyond + ", 0)", Check.OUTSIDE, () -> bench.setWeight(beyond, 0));
        }
    }

    // ---- pick

    private static void pickTellsAll() {
        QuakeBench bench = twoPicks();
        bench.addEvent();
        bench.addEvent();
        bench.setWeight(1, 3);
        bench.give(1, 1);
        int[] first = {0, 0, 5, 4, -1};
        int[] second = {3, 1, 7, 3, 1};
        for (int what = 0; what <= 4; what++) {
            Check.due("pick(0, " + what + ")", bench.pick(0, what), first[what]);
            Check.due("pick(1, " + what + ")", bench.pick(1, what), second[what]);
        }
    }

    private static void pickTellsWhatIsNot() {
        QuakeBench bench = twoPicks();
        for (int beyond : Check.beyond(0, 4)) {
            Check.refused(bench, "pick(1, " + beyond + ")", Check.OUTSIDE, () -> bench.pick(1, beyond));
        }
    }

    private static void pickOfNoNumber() {
        QuakeBench bench = twoPicks();
        for (int beyond : Check.beyond(0, 1)) {
            Check.refused(bench, "pick(" + beyond + ", 0)", Check.OUTSIDE, () -> bench.pick(beyond, 0));
            Check.refused(bench, "pick(" + beyond + ", 5)", Check.OUTSIDE, () -> bench.pick(beyond, 5));
        }
    }
}
