import java.util.Random;

/** Random runs of at most 512 calls, each answer held against PlainModel's. */
public final class ModelTest {
    private static final int RUNS = 1000;
    private static final int CALLS = 512;
    private static final double[] ODD = {0.0, -0.0, 0.1, 0.5, 1.0, 10.0, 1000.0, 10000.0, -1.0, 1e300,
        0.0 / 0.0, 1.0 / 0.0, -1.0 / 0.0, Double.MIN_VALUE, 0.125, 100.0};
    private static final int[] ODD_INTS = {Integer.MIN_VALUE, Integer.MAX_VALUE, -1, 0, 1, 1000, 1001, 10000, 10001};

    private final Due due;
    private final Random random;
    private final SortLineEvents line;
    private final PlainModel model;
    private final int run;
    private final int span;
    private final boolean small;
    private int time;

    private ModelTest(Due due, int run) {
        this.due = due;
        this.run = run;
        random = new Random(run);
        long seed = random.nextInt(3) == 0 ? random.nextInt(5) - 2 : random.nextLong();
        line = new SortLineEvents(seed);
        model = new PlainModel(seed);
        small = random.nextBoolean();
        span = small ? 12 : 1 + random.nextInt(120);
    }

    public static void main(String[] args) {
        Due due = new Due();
        long[] kindsOfEvents = new long[10];
        for (int run = 0; run < RUNS; run++) {
            ModelTest test = new ModelTest(due, run);
            test.calls();
            for (int k = 0; test.model.event(k, 2) >= 0; k++) {
                kindsOfEvents[test.model.event(k, 2)]++;
            }
        }
        for (int what = 0; what < 10; what++) {
            due.is("enough events of what = " + what, kindsOfEvents[what] > 300, true);
        }
        due.end();
    }

    private void calls() {
        int telling = 10 + random.nextInt(40);
        int feeding = telling + random.nextInt(80);
        tell(0);
        for (int call = 1; call < CALLS; call++) {
            int die = random.nextInt(100);
            if (call < telling) {
                tell(die < 97 ? random.nextInt(7) : 7);
            } else if (call < feeding) {
                tell(die < 90 ? 7 : 8);
            } else if (die < 20) {
                tell(8);
            } else if (die < 25) {
                tell(random.nextInt(8));
            } else {
                ask();
            }
        }
    }

    private int odd(int usual) {
        return random.nextInt(40) == 0 ? ODD_INTS[random.nextInt(ODD_INTS.length)] : usual;
    }

    private double odd(double usual) {
        return random.nextInt(40) == 0 ? ODD[random.nextInt(ODD.length)] : usual;
    }

    private int belt() {
        return odd(random.nextInt(random.nextInt(4) == 0 ? 6 : 2));
    }

    private double part(int steps, double greatest) {
        return random.nextBoolean() ? random.nextDouble() * greatest : random.nextInt(steps + 1) * greatest / steps;
    }

    private void tell(int which) {
        int belt = belt();
        switch (which) {
            case 0 -> {
                int tenths = odd(1 + random.nextInt(small ? 5 : 40));
                double length = odd(0.5 + part(8, 4.0));
                same("belt", line.belt(tenths, length), model.belt(tenths, length));
            }
            case 1 -> {
                double at = odd(part(10, random.nextInt(3) == 0 ? 4.5 : 0.5));
                double miss = odd(part(4, 1.0));
                same("head", line.head(belt, at, miss), model.head(belt, at, miss));
            }
            case 2 -> {
                double room = odd(part(8, 6.0));
                same("bunker", line.bunker(room), model.bunker(room));
            }
            case 3 -> {
                int to = odd(random.nextInt(10) - 4);
                same("joinTo", line.joinTo(belt, to), model.joinTo(belt, to));
            }
            case 4 -> {
                double load = odd(part(10, 15.0));
                int stands = odd(1 + random.nextInt(9));
                same("rule", line.rule(belt, load, stands), model.rule(belt, load, stands));
            }
            case 5 -> {
                double rate = odd(0.125 + part(8, 5.0));
                double tires = odd(part(4, 1.0));
                same("picker", line.picker(belt, rate, tires), model.picker(belt, rate, tires));
            }
            case 6 -> {
                double reach = odd(part(8, 3.0));
                double miss = odd(part(4, 1.0));
                same("robot", line.robot(belt, reach, miss), model.robot(belt, reach, miss));
            }
            case 7 -> {
                int at = odd(time + random.nextInt(span));
                int kind = odd(random.nextInt(5));
                double size = odd(part(8, 4.0));
                same("feed", line.feed(belt, at, kind, size), model.feed(belt, at, kind, size));
            }
            default -> {
                int to = random.nextInt(300) == 0 ? odd(10000) : time - 1 + random.nextInt(10);
                int answer = model.run(to);
                same("run(" + to + ")", line.run(to), answer);
                time = answer < 0 ? time : to;
            }
        }
    }

    private void ask() {
        int belt = belt();
        int kind = odd(random.nextInt(5));
        int what = odd(random.nextInt(4));
        int k = odd(random.nextInt(1 + random.nextInt(random.nextInt(5) == 0 ? 2100 : 300)));
        switch (random.nextInt(20)) {
            case 0 -> same("out", line.out(belt, kind), model.out(belt, kind));
            case 1 -> same("inside", line.inside(), model.inside());
            case 2 -> same("jam", line.jam(k % 10, what), model.jam(k % 10, what));
            case 3 -> same("lost", line.lost(what), model.lost(what));
            case 4 -> {
                int end = odd(random.nextInt(2));
                due.is("run " + run + ": interval", line.interval(belt, kind, end), model.interval(belt, kind, end));
            }
            case 5 -> same("same", line.same(), model.same());
            case 6 -> same("pieceKind", line.pieceKind(k), model.pieceKind(k));
            default -> same("event", line.event(k, what), model.event(k, what));
        }
    }

    private void same(String call, long got, long want) {
        due.is("run " + run + ": " + call, got, want);
    }

    private void same(String call, boolean got, boolean want) {
        due.is("run " + run + ": " + call, got, want);
    }
}
