/**
 * Long runs of calls, right and wrong ones, against the model: each answer, each exception, and after
 * calls that throw everything that is answered later. The runs are the same each time.
 */
public final class RandomRunsTest {
    private static final int RUNS = 3000;
    /** After these an object's answers are free. */
    private static final int CALLS = 512;

    private static long seed;
    private static HeatTrain train;
    private static Model model;
    private static int units;
    private static int controllers;
    private static int calls;

    public static void main(String[] args) {
        for (int run = 0; run < RUNS && Check.wrongs() < 10; run++) {
            seed = 88172645463325252L + run * 7919L;
            play(run);
        }
        Check.end();
    }

    private static int under(int bound) {
        seed ^= seed << 13;
        seed ^= seed >>> 7;
        seed ^= seed << 17;
        return (int) Math.floorMod(seed, (long) bound);
    }

    private static boolean rarely() {
        return under(12) == 0;
    }

    /** Mostly in a range, now and then at its edge or out of it. */
    private static int from(int least, int most) {
        switch (under(24)) {
            case 0:
                return least - 1;
            case 1:
                return most + 1;
            case 2:
            case 3:
                return least;
            case 4:
            case 5:
                return most;
            case 6:
                return rarely() ? Integer.MIN_VALUE : least;
            case 7:
                return rarely() ? Integer.MAX_VALUE : most;
            default:
                return most < least ? least : least + under(most - least + 1);
        }
    }

    private static void play(int run) {
        train = new HeatTrain();
        model = new Model();
        units = 0;
        controllers = 0;
        int steps = 1 + under(9);
        int making = 6 + under(40);
        calls = 0;
        while (calls < CALLS && Check.wrongs() < 10) {
            String at = "run " + run + ", call " + calls + ": ";
            if (calls < making) {
                make(at);
            } else if (rarely()) {
                make(at);
            } else if (under(3) == 0) {
                steer(at, steps);
            } else {
                ask(at);
            }
        }
    }

    private static void same(String call, Check.Call got, Check.Call want) {
        calls++;
        String answered = Check.outcome(got);
        String due = Check.outcome(want);
        if (!answered.equals(due)) {
            Check.report(call + " " + answered + ", the model " + due);
        }
    }

    private static int aUnit() {
        return from(0, units - 1);
    }

    private static int aStream() {
        return from(0, 2 * units - 1);
    }

    private static int aController() {
        return from(0, controllers - 1);
    }

    private static int aNumber() {
        int[] most = {999, 100, 9999, 99999, 30};
        return from(0, most[under(5)]);
    }

    private static void make(String at) {
        int kind = from(1, 4);
        int first = from(0, 2 * units + 1);
        int second = from(0, 2 * units + 1);
        int number = kind == 1 ? from(0, 100) : aNumber();
        switch (under(8)) {
            case 0:
            case 1:
                int flow = under(2) == 0 ? from(0, 20) : from(0, 999);
                int warmth = from(0, 300);
                same(at + "source(" + flow + ", " + warmth + ")",
                    () -> train.source(flow, warmth), () -> model.source(flow, warmth));
                break;
            case 2:
            case 3:
            case 4:
                same(at + "unit(" + kind + ", " + first + ", " + second + ", " + number + ")",
                    () -> train.unit(kind, first, second, number), () -> model.unit(kind, first, second, number));
                break;
            case 5:
                int unit = aUnit();
                int stream = aStream();
                same(at + "back(" + unit + ", " + stream + ")",
                    () -> train.back(unit, stream), () -> model.back(unit, stream));
                break;
            default:
                makeController(at);
        }
        count();
    }

    private static void makeController(String at) {
        int stream = aStream();
        int unit = under(4) == 0 ? from(101 + controllers, 105) : aUnit();
        if (under(3) == 0) {
            int hundredths = from(0, 999);
            same(at + "ratio(" + stream + ", " + hundredths + ", " + unit + ")",
                () -> train.ratio(stream, hundredths, unit), () -> model.ratio(stream, hundredths, unit));
        } else {
            int goal = from(0, 3000);
            int gain = from(-99, 99);
            int base = under(2) == 0 ? from(0, 200) : from(0, 99999);
            same(at + "control(" + stream + ", " + goal + ", " + gain + ", " + base + ", " + unit + ")",
                () -> train.control(stream, goal, gain, base, unit),
                () -> model.control(stream, goal, gain, base, unit));
        }
    }

    private static void count() {
        while (!Check.outcome(() -> model.ofUnit(units, 0)).startsWith("throws")) {
            units++;
        }
        while (!Check.outcome(() -> model.ofController(controllers, 0)).startsWith("throws")) {
            controllers++;
        }
    }

    private static void steer(String at, int steps) {
        int unit = aUnit();
        int number = aNumber();
        int controller = aController();
        switch (under(8)) {
            case 0:
                same(at + "set(" + unit + ", " + number + ")",
                    () -> train.set(unit, number), () -> model.set(unit, number));
                break;
            case 1:
                int tick = under(2) == 0 ? model.now() + under(20) : from(model.now() + 1, 300);
                same(at + "disturb(" + tick + ", " + unit + ", " + number + ")",
                    () -> train.disturb(tick, unit, number), () -> model.disturb(tick, unit, number));
                break;
            case 2:
                int stream = aStream();
                int hundredths = from(-500, 500);
                same(at + "feed(" + controller + ", " + stream + ", " + hundredths + ")",
                    () -> voidly(() -> train.feed(controller, stream, hundredths)),
                    () -> voidly(() -> model.feed(controller, stream, hundredths)));
                break;
            case 3:
                int goal = from(0, 3000);
                int limit = under(2) == 0 ? from(0, 200) : from(0, 3000);
                same(at + "aim(" + controller + ", " + goal + ", " + limit + ")",
                    () -> train.aim(controller, goal, limit), () -> model.aim(controller, goal, limit));
                break;
            case 4:
                same(at + "select(" + unit + ")",
                    () -> train.select(unit) ? 1 : 0, () -> model.select(unit) ? 1 : 0);
                break;
            case 5:
                same(at + "quit()", () -> train.quit(), () -> model.quit());
                break;
            default:
                int ticks = rarely() ? from(1, 50) : 1 + under(steps);
                same(at + "tick(" + ticks + ")", () -> train.tick(ticks), () -> model.tick(ticks));
        }
    }

    private static void askAll(String at) {
        switch (under(3)) {
            case 0:
                Check.due(at + "the model's balance", 0, model.balance());
                same(at + "balance()", () -> train.balance(), () -> model.balance());
                break;
            case 1:
                same(at + "now()", () -> train.now(), () -> model.now());
                break;
            default:
                same(at + "alarms()", () -> train.alarms(), () -> model.alarms());
        }
    }

    private static long voidly(Runnable call) {
        call.run();
        return 0;
    }

    private static void ask(String at) {
        int unit = aUnit();
        int stream = aStream();
        int controller = aController();
        switch (under(9)) {
            case 0:
            case 1:
                int what = from(0, 2);
                same(at + "of(" + stream + ", " + what + ")",
                    () -> train.of(stream, what), () -> model.of(stream, what));
                break;
            case 2:
                int which = from(0, 1);
                same(at + "ofUnit(" + unit + ", " + which + ")",
                    () -> train.ofUnit(unit, which), () -> model.ofUnit(unit, which));
                break;
            case 3:
            case 4:
                int thing = from(0, 3);
                same(at + "ofController(" + controller + ", " + thing + ")",
                    () -> train.ofController(controller, thing), () -> model.ofController(controller, thing));
                break;
            case 5:
                int tick = from(1, model.now());
                same(at + "trend(" + stream + ", " + tick + ")",
                    () -> train.trend(stream, tick), () -> model.trend(stream, tick));
                break;
            case 6:
                askAll(at);
                break;
            case 7:
                same(at + "gain(" + unit + ", " + stream + ")",
                    () -> train.gain(unit, stream), () -> model.gain(unit, stream));
                break;
            default:
                int other = aUnit();
                int second = aStream();
                same(at + "relative(" + unit + ", " + other + ", " + stream + ", " + second + ")",
                    () -> train.relative(unit, other, stream, second),
                    () -> model.relative(unit, other, stream, second));
        }
    }
}
