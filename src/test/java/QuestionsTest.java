/** Promises 14 to 22: of, ofUnit, ofController, trend, balance, alarms, gain, relative, now. */
public final class QuestionsTest {
    private static final int SPLIT = HeatTrain.SPLIT, MIX = HeatTrain.MIX;
    private static final int EXCHANGE = HeatTrain.EXCHANGE, COOLER = HeatTrain.COOLER;

    public static void main(String[] args) {
        streams();
        units();
        controllers();
        trends();
        balances();
        gains();
        gainsOfTwelveTicks();
        gainsAlone();
        relatives();
        indexesRefused();
        questionsChangeNothing();
        Check.end();
    }

    /** 70 of 33 degrees go through a cooler of 777 and a split of 30, and are mixed again. */
    private static HeatTrain plant() {
        HeatTrain x = new HeatTrain();
        x.source(70, 33);
        x.unit(COOLER, 0, 0, 777);
        x.unit(SPLIT, 2, 0, 30);
        x.unit(MIX, 4, 5, 12);
        return x;
    }

    private static void streams() {
        HeatTrain x = plant();
        x.tick(1);
        Check.due("flow", 70, x.of(2, 0));
        Check.due("heat", 1533, x.of(2, 1));
        Check.due("warmth", 219, x.of(2, 2));
        Check.due("first flow", 21, x.of(4, 0));
        Check.due("first heat, 1533 times 21 by 70", 459, x.of(4, 1));
        Check.due("first warmth, 4590 by 21", 218, x.of(4, 2));
        Check.due("second heat", 1074, x.of(5, 1));
        Check.due("mixed", 1533, x.of(6, 1));
        Check.refused("the stream -1", Check.INDEX, () -> x.of(-1, 0));
        Check.refused("the stream 8, ahead of what", Check.INDEX, () -> x.of(8, 3));
        Check.refused("what -1", Check.ARGUMENT, () -> x.of(0, -1));
        Check.refused("what 3", Check.ARGUMENT, () -> x.of(0, 3));
    }

    private static void units() {
        HeatTrain x = plant();
        Check.due("the number of a SOURCE", 70, x.ofUnit(0, 0));
        Check.due("of a COOLER", 777, x.ofUnit(1, 0));
        Check.due("of a SPLIT", 30, x.ofUnit(2, 0));
        Check.due("of a MIX", 12, x.ofUnit(3, 0));
        Check.due("nothing away ahead of a tick", 0, x.ofUnit(1, 1));
        x.tick(1);
        Check.due("away", 777, x.ofUnit(1, 1));
        x.set(1, 5);
        Check.due("away in the last tick", 777, x.ofUnit(1, 1));
        Check.due("the others", 0, x.ofUnit(0, 1) + x.ofUnit(2, 1) + x.ofUnit(3, 1));
        Check.refused("the unit -1", Check.INDEX, () -> x.ofUnit(-1, 0));
        Check.refused("the unit 4, ahead of what", Check.INDEX, () -> x.ofUnit(4, 2));
        Check.refused("what -1", Check.ARGUMENT, () -> x.ofUnit(0, -1));
        Check.refused("what 2", Check.ARGUMENT, () -> x.ofUnit(0, 2));
    }

    private static void controllers() {
        HeatTrain x = plant();
        x.control(6, 400, 7, 100, 1);
        x.ratio(0, 50, 2);
        x.tick(2);
        Check.due("the goal", 400, x.ofController(0, 0));
        Check.due("the sum of 7 times 400, and 7 times (400 less 315)", 3395, x.ofController(0, 1));
        Check.due("the error", 85, x.ofController(0, 3));
        Check.due("the output", 103, x.ofController(0, 2));
        Check.due("the goal of a station", 0, x.ofController(1, 0));
        Check.due("its sum", 0, x.ofController(1, 1));
        Check.due("its output", 35, x.ofController(1, 2));
        Check.due("its error", 0, x.ofController(1, 3));
        Check.refused("the controller -1", Check.INDEX, () -> x.ofController(-1, 0));
        Check.refused("the controller 2, ahead of what", Check.INDEX, () -> x.ofController(2, 4));
        Check.refused("what -1", Check.ARGUMENT, () -> x.ofController(0, -1));
        Check.refused("what 4", Check.ARGUMENT, () -> x.ofController(1, 4));
    }

    private static void trends() {
        HeatTrain x = plant();
        Check.refused("no tick ahead of the first", Check.INDEX, () -> x.trend(0, 0));
        Check.refused("no tick 1 yet", Check.INDEX, () -> x.trend(0, 1));
        for (int t = 1; t <= 50; t++) {
            x.set(1, 7 * t);
            x.tick(1);
        }
        for (int i = 0; i < 5; i++) {
            x.tick(50);
        }
        for (int t = 1; t <= 300; t++) {
            Check.due("the cooler's in the tick " + t, 330 - Math.min(t, 50), x.trend(2, t));
        }
        for (int t = 50; t <= 300; t += 50) {
            Check.due("the source's in the tick " + t, 330, x.trend(0, t));
            Check.due("an empty one's in the tick " + t, 0, x.trend(7, t));
        }
        Check.refused("the tick 0", Check.INDEX, () -> x.trend(2, 0));
        Check.refused("the tick -1", Check.INDEX, () -> x.trend(2, -1));
        Check.refused("the tick 301", Check.INDEX, () -> x.trend(2, 301));
        Check.refused("the stream -1", Check.INDEX, () -> x.trend(-1, 1));
        Check.refused("the stream 8", Check.INDEX, () -> x.trend(8, 1));
    }

    private static void balances() {
        HeatTrain x = new HeatTrain();
        x.source(70, 33);
        x.unit(MIX, 3, 0, 0);
        x.unit(SPLIT, 2, 0, 37);
        x.unit(COOLER, 4, 0, 99);
        x.source(13, 290);
        x.unit(EXCHANGE, 8, 5, 17);
        Check.due("a stream of a higher unit", 3, x.back(1, 6));
        Check.due("ahead of a tick", 0, x.balance());
        for (int t = 1; t <= 20; t++) {
            x.tick(1);
            Check.due("in the tick " + t, 0, x.balance());
            x.set(0, 70 + t);
            Check.due("after set in the tick " + t, 0, x.balance());
        }
    }

    private static void gains() {
        HeatTrain x = new HeatTrain();
        x.source(10, 100);
        x.unit(COOLER, 0, 0, 100);
        x.unit(MIX, 2, 1, Integer.MAX_VALUE);
        Check.due("of a cooler, ahead of a tick", -1, x.gain(1, 2));
        Check.due("of a source: 10000 by 11, less 900", 9, x.gain(0, 2));
        Check.due("of a source on its own stream", 0, x.gain(0, 0));
        Check.due("of a MIX", 0, x.gain(2, 4));
        Check.due("on an empty stream", 0, x.gain(0, 5));
        x.set(1, 99999);
        Check.due("of a number that is the most", 0, x.gain(1, 2));
        x.set(1, 0);
        x.set(0, 0);
        Check.due("of a source at 0", 1000, x.gain(0, 2));
        x.set(0, 998);
        x.set(1, 99899);
        Check.due("of a source below the most: 10 by 998, less 1 by 998", 0, x.gain(0, 2));
        x.set(0, 100);
        x.set(1, 9000);
        Check.due("of a source: 11000 by 101, less 100", 8, x.gain(0, 2));
        x.set(0, 999);
        Check.due("of a source at the most", 0, x.gain(0, 2));
    }

    /** Eleven coolers, each of a higher unit's stream: what the source gives comes out in the twelfth tick. */
    private static void gainsOfTwelveTicks() {
        HeatTrain x = new HeatTrain();
        for (int u = 0; u < 11; u++) {
            x.unit(COOLER, 2 * u + 1, 0, u == 10 ? 100 : 0);
            if (u > 0) {
                x.back(u - 1, 2 * u);
            }
        }
        x.source(10, 100);
        x.back(10, 22);
        x.tick(50);
        Check.due("the stream at rest", 900, x.of(0, 2));
        Check.due("in the twelfth tick", 9, x.gain(11, 0));
        Check.due("of one that is nearer", -1, x.gain(10, 0));
        gainsOfALoop();
    }

    /** A loop that gathers a flow: each tick more makes a change of it another one. */
    private static void gainsOfALoop() {
        HeatTrain x = new HeatTrain();
        x.source(1, 100);
        x.unit(MIX, 3, 0, 0);
        x.unit(COOLER, 2, 0, 0);
        x.back(1, 4);
        Check.due("1188 by 12, from the start", -10, x.gain(2, 4));
        x.tick(1);
        Check.due("12880 by 13", -10, x.gain(2, 4));
        x.tick(11);
        Check.due("23880 by 24", -5, x.gain(2, 4));
        x.tick(38);
        Check.due("61880 by 62", -2, x.gain(2, 4));
    }

    private static void gainsAlone() {
        HeatTrain x = new HeatTrain();
        x.source(10, 100);
        x.unit(COOLER, 0, 0, 100);
        x.control(2, 500, 99, 0, 1);
        x.disturb(2, 0, 999);
        Check.due("without the controller and the disturbance", -1, x.gain(1, 2));
        x.control(2, 500, 99, 77777, 0);
        Check.due("of what a controller drives", 9, x.gain(0, 2));
        x.tick(50);
        x.tick(50);
        HeatTrain y = new HeatTrain();
        y.source(10, 100);
        y.unit(COOLER, 0, 0, 100);
        for (int i = 0; i < 6; i++) {
            y.tick(50);
        }
        Check.due("at the last tick", -1, y.gain(1, 2));
    }

    private static void relatives() {
        HeatTrain x = new HeatTrain();
        x.source(100, 200);
        x.source(10, 100);
        x.unit(MIX, 0, 2, 0);
        x.unit(COOLER, 4, 0, 1000);
        x.source(10, 100);
        x.unit(COOLER, 8, 0, 100);
        x.tick(1);
        long a = x.gain(1, 6);
        long b = x.gain(1, 10);
        long c = x.gain(4, 6);
        long d = x.gain(4, 10);
        Check.due("a", -8, a);
        Check.due("b", 0, b);
        Check.due("c", 0, c);
        Check.due("d", 9, d);
        Check.due("each on its own", 100, x.relative(1, 4, 6, 10));
        Check.due("each on the other", 0, x.relative(1, 4, 10, 6));
        Check.due("one unit twice", HeatTrain.NO_GAIN, x.relative(1, 1, 6, 10));
        Check.due("one stream twice", HeatTrain.NO_GAIN, x.relative(1, 4, 6, 6));
        Check.due("without a gain", HeatTrain.NO_GAIN, x.relative(2, 2, 6, 6));
        relativeOfFour();
    }

    private static void relativeOfFour() {
        HeatTrain x = new HeatTrain();
        x.source(20, 200);
        x.source(15, 20);
        x.unit(EXCHANGE, 0, 2, 10);
        x.unit(COOLER, 4, 0, 500);
        x.tick(1);
        Check.due("a, 23580 by 20, less 1210", -31, x.gain(2, 6));
        Check.due("b, 14420 by 15, less 920", 41, x.gain(2, 5));
        Check.due("c, 23930 by 20, less 1210, with a flow of 16", -14, x.gain(1, 6));
        Check.due("d, 14270 by 16, less 920", -29, x.gain(1, 5));
        Check.due("89900 by (899 and 574)", 61, x.relative(2, 1, 6, 5));
        Check.due("the other pairing, -57400 by (-574 less 899)", 38, x.relative(2, 1, 5, 6));
        Check.due("the gains are of a source too", 37, x.gain(0, 6));
        Check.due("that has none on the other stream", 0, x.gain(0, 5));
        Check.due("and so 100", 100, x.relative(0, 1, 6, 5));
    }

    private static void indexesRefused() {
        HeatTrain x = plant();
        Check.refused("gain of the unit -1", Check.INDEX, () -> x.gain(-1, 0));
        Check.refused("gain of the unit 4", Check.INDEX, () -> x.gain(4, 0));
        Check.refused("gain on the stream -1", Check.INDEX, () -> x.gain(0, -1));
        Check.refused("gain on the stream 8", Check.INDEX, () -> x.gain(0, 8));
        Check.refused("relative of the unit -1", Check.INDEX, () -> x.relative(-1, 0, 0, 0));
        Check.refused("relative of the other unit 4", Check.INDEX, () -> x.relative(0, 4, 0, 0));
        Check.refused("relative on the stream 8", Check.INDEX, () -> x.relative(0, 0, 8, 0));
        Check.refused("relative on the second stream -1", Check.INDEX, () -> x.relative(0, 0, 0, -1));
    }

    private static void questionsChangeNothing() {
        HeatTrain asked = plant();
        HeatTrain quiet = plant();
        for (int t = 1; t <= 15; t++) {
            asked.gain(1, 6);
            asked.gain(0, 4);
            asked.relative(0, 1, 2, 6);
            asked.balance();
            asked.trend(6, asked.tick(1));
            quiet.tick(1);
            Check.due("now", t, asked.now());
            Check.due("alarms", 0, asked.alarms());
            for (int s = 0; s < 8; s++) {
                Check.due("the heat of " + s, quiet.of(s, 1), asked.of(s, 1));
            }
            for (int u = 0; u < 4; u++) {
                Check.due("the number of " + u, quiet.ofUnit(u, 0), asked.ofUnit(u, 0));
                Check.due("what moved in " + u, quiet.ofUnit(u, 1), asked.ofUnit(u, 1));
            }
        }
    }
}
