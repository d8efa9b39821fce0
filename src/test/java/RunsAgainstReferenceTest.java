import java.util.function.Function;

/** Long runs of calls, good and bad, on the bench and on the Reference; every answer must be the same. */
public final class RunsAgainstReferenceTest {
    private static final int RUNS = 100;
    /** "An object is used for at most 512 calls after it has been made." */
    private static final int CALLS = 512;

    private final QuakeBench bench = new QuakeBench();
    private final Reference reference = new Reference();
    private long seed;
    private final int run;
    private int calls;
    private int stations;

    private RunsAgainstReferenceTest(int run) {
        this.run = run;
        this.seed = run * 7919L + 17;
    }

    public static void main(String[] args) {
        for (int run = 0; run < RUNS; run++) {
            new RunsAgainstReferenceTest(run).go();
        }
        Check.end();
    }

    private int below(int n) {
        seed = seed * 6364136223846793005L + 1442695040888963407L;
        return (int) ((seed >>> 33) % n);
    }

    /** Mostly within low and high, often at their edges, now and then outside. */
    private int around(int low, int high) {
        switch (below(40)) {
            case 0:
                return low - 1;
            case 1:
                return high + 1;
            case 2:
                return Integer.MIN_VALUE;
            case 3:
                return Integer.MAX_VALUE;
            case 4:
            case 5:
                return low;
            case 6:
            case 7:
                return high;
            default:
                return high < low ? low : low + below(high - low + 1);
        }
    }

    private static String answer(String call, Function<Object, Object> run, Object on) {
        try {
            return String.valueOf(run.apply(on));
        } catch (RuntimeException e) {
            if (on instanceof QuakeBench) {
                Check.ownThrow(call, e);
            }
            return "throws." + e.getClass().getSimpleName();
        }
    }

    private void same(String call, Function<Object, Object> onBench, Function<Object, Object> onReference) {
        // The last call of each run is that of digest.
        if (calls < CALLS - 1) {
            calls++;
            compare(call, onBench, onReference);
        }
    }

    private void compare(String call, Function<Object, Object> onBench, Function<Object, Object> onReference) {
        String got = answer(call, onBench, bench);
        String want = answer(call, onReference, reference);
        if (!got.equals(want)) {
            Check.tell("run " + run + ": " + call + " answered " + got + ", due is " + want);
        }
    }

    private void go() {
        stations = run % 4 == 0 ? 4 : 5 + below(6);
        for (int k = 0; k < stations; k++) {
            addStation(below(201), below(201));
        }
        while (calls < CALLS - 1) {
            call();
        }
        compare("digest()", b -> bench.digest(), x -> reference.digest());
    }

    private void addStation(int x, int y) {
        same("addStation(" + x + ", " + y + ")", b -> bench.addStation(x, y), q -> reference.addStation(x, y));
    }

    private void call() {
        int kind = below(100);
        if (kind < 6) {
            quake();
        } else if (kind < 30) {
            picksAndEvents(kind);
        } else if (kind < 45) {
            stationsAndWaves(kind);
        } else if (kind < 80) {
            seeking(kind);
        } else {
            magnitudesAndFamilies(kind);
        }
    }

    /** Picks that fit together, with some noise, so that associate() has something to find. */
    private void quake() {
        int x = below(201);
        int y = below(201);
        int z = below(61);
        int time = below(6) == 0 ? below(200000) : below(40) * 50000;
        int noise = below(3) == 0 ? 3000 : 300;
        for (int station = 0; station < stations; station++) {
            for (int wave = 0; wave < 2; wave++) {
                boolean isS = wave == 1;
                if (below(3) > wave) {
                    addPick(station, isS, Math.max(0, time + reference.needs(station, x, y, z, isS) + below(noise)));
                }
            }
        }
        if (below(2) == 0) {
            same("associate()", b -> bench.associate(), q -> reference.associate());
        }
    }

    private void addPick(int station, boolean isS, int time) {
        same("addPick(" + station + ", " + isS + ", " + time + ")", b -> bench.addPick(station, isS, time),
                q -> reference.addPick(station, isS, time));
    }

    private void picksAndEvents(int kind) {
        int pick = around(0, reference.count(1) - 1);
        int event = around(-1, reference.count(2) - 1);
        int what = around(0, 4);
        int weight = around(1, 4);
        if (kind < 7) {
            addPick(around(0, stations - 1), below(2) == 0, around(0, 10000000));
        } else if (kind < 10) {
            same("setWeight(" + pick + ", " + weight + ")", b -> bench.setWeight(pick, weight),
                    q -> reference.setWeight(pick, weight));
        } else if (kind < 16) {
            same("pick(" + pick + ", " + what + ")", b -> bench.pick(pick, what), q -> reference.pick(pick, what));
        } else if (kind < 17) {
            same("addEvent()", b -> bench.addEvent(), q -> reference.addEvent());
        } else if (kind < 24) {
            same("give(" + pick + ", " + event + ")", b -> bench.give(pick, event), q -> reference.give(pick, event));
        } else if (kind < 26) {
            same("associate()", b -> bench.associate(), q -> reference.associate());
        } else {
            same("count(" + what + ")", b -> bench.count(what), q -> reference.count(what));
        }
    }

    private void stationsAndWaves(int kind) {
        int station = around(0, stations - 1);
        int x = around(0, 200);
        int y = around(0, 200);
        int z = around(0, 60);
        boolean isS = below(2) == 0;
        String at = "(" + station + ", " + x + ", " + y + ", " + z;
        if (kind == 30 && below(3) == 0) {
            addStation(x, y);
        } else if (kind == 31) {
            int delay = around(-2000, 2000);
            same("setDelay(" + station + ", " + delay + ")", b -> bench.setDelay(station, delay),
                    q -> reference.setDelay(station, delay));
        } else if (kind == 32 && below(2) == 0) {
            int v = around(3000, 9000);
            int r = around(150, 200);
            same("setSpeeds(" + v + ", " + r + ")", b -> bench.setSpeeds(v, r), q -> reference.setSpeeds(v, r));
        } else if (kind < 39) {
            same("way" + at + ")", b -> bench.way(station, x, y, z), q -> reference.way(station, x, y, z));
        } else {
            same("needs" + at + ", " + isS + ")", b -> bench.needs(station, x, y, z, isS),
                    q -> reference.needs(station, x, y, z, isS));
        }
    }

    private void seeking(int kind) {
        int event = around(0, reference.count(2) - 1);
        int pick = around(0, reference.count(1) - 1);
        int what = around(0, 5);
        int x = around(0, 200);
        int y = around(0, 200);
        int z = around(0, 60);
        if (kind < 52) {
            same("seek(" + event + ")", b -> bench.seek(event), q -> reference.seek(event));
        } else if (kind < 58) {
            same("event(" + event + ", " + what + ")", b -> bench.event(event, what),
                    q -> reference.event(event, what));
        } else if (kind < 62) {
            same("misfit(" + event + ", " + x + ", " + y + ", " + z + ")", b -> bench.misfit(event, x, y, z),
                    q -> reference.misfit(event, x, y, z));
        } else if (kind < 68) {
            same("residual(" + pick + ")", b -> bench.residual(pick), q -> reference.residual(pick));
        } else if (kind < 72) {
            same("worst(" + event + ")", b -> bench.worst(event), q -> reference.worst(event));
        } else if (kind < 76) {
            same("spread(" + event + ")", b -> bench.spread(event), q -> reference.spread(event));
        } else {
            same("gap(" + event + ")", b -> bench.gap(event), q -> reference.gap(event));
        }
    }

    private void magnitudesAndFamilies(int kind) {
        int event = around(0, reference.count(2) - 1);
        int pick = around(0, reference.count(1) - 1);
        int near = below(2) == 0 ? around(0, 500) : below(150);
        int soon = below(2) == 0 ? around(0, 10000000) : below(300000);
        if (kind < 85) {
            int amplitude = below(2) == 0 ? around(1, 1000000000) : 1 << below(30);
            same("setAmplitude(" + pick + ", " + amplitude + ")", b -> bench.setAmplitude(pick, amplitude),
                    q -> reference.setAmplitude(pick, amplitude));
        } else if (kind < 88) {
            same("magnitude(" + event + ")", b -> bench.magnitude(event), q -> reference.magnitude(event));
        } else if (kind < 91) {
            same("families(" + near + ", " + soon + ")", b -> bench.families(near, soon),
                    q -> reference.families(near, soon));
        } else if (kind < 94) {
            same("family(" + event + ", " + near + ", " + soon + ")", b -> bench.family(event, near, soon),
                    q -> reference.family(event, near, soon));
        } else if (kind < 97) {
            int x = around(0, 200);
            int y = around(0, 200);
            int z = around(0, 60);
            same("nearest(" + x + ", " + y + ", " + z + ")", b -> bench.nearest(x, y, z),
                    q -> reference.nearest(x, y, z));
        } else {
            same("digest()", b -> bench.digest(), q -> reference.digest());
        }
    }
}
