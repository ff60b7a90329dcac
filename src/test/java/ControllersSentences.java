/** The sentences of 'Controllers'. */
final class ControllersSentences {
    private static final int SPLIT = HeatTrain.SPLIT, EXCHANGE = HeatTrain.EXCHANGE, COOLER = HeatTrain.COOLER;

    private ControllersSentences() {
    }

    static void run() {
        controllers();
        sumAtFirst();
        error();
        sumIsHeld();
        output();
        feed();
        noFeedAtFirst();
        cascades();
        ratioStations();
        leastOrGreatest();
        sumsOfOthers();
        heldToTheKind();
    }

    /** The unit 0 gives 100 of 50 degrees, the unit 1 is a source to be driven, the unit 2 a cooler. */
    private static HeatTrain plant() {
        HeatTrain x = new HeatTrain();
        x.source(100, 50);
        x.source(10, 0);
        x.unit(COOLER, 2, 0, 0);
        return x;
    }

    private static void controllers() {
        Sentences.test("Controllers: Controllers are numbered from 0, at most 6: each measures the warmth of a"
            + " stream, as it was in the tick ahead, has a goal, 0 to 3000 tenths, a gain, -99 to 99, a base, 0 to"
            + " 99999, and drives a unit, or the goal of a higher controller.");
        HeatTrain x = plant();
        Check.refusedOutside("a goal", Check.ARGUMENT, 0, 3000, v -> x.control(0, v, 0, 0, 1));
        Check.refusedOutside("a gain", Check.ARGUMENT, -99, 99, v -> x.control(0, 0, v, 0, 1));
        Check.refusedOutside("a base", Check.ARGUMENT, 0, 99999, v -> x.control(0, 0, 0, v, 1));
        Check.refusedOutside("a unit", Check.INDEX, 0, 2, v -> x.control(0, 0, 0, 0, v));
        Check.refused("no controller yet", Check.INDEX, () -> x.ofController(0, 0));
        int[] goals = {0, 3000, 500, 500, 499, 501};
        int[] gains = {99, -99, 99, -99, -99, -99};
        int[] bases = {0, 99999, 1, 1, 1, 1};
        int[] units = {1, 1, 105, 104, 105, 1};
        for (int c = 0; c < 6; c++) {
            Check.due("control", c, x.control(0, goals[c], gains[c], bases[c], units[c]));
        }
        Check.refused("a seventh controller", Check.STATE, () -> x.control(0, 0, 0, 0, 1));
        Check.refused("no controller 6", Check.INDEX, () -> x.ofController(6, 0));
        x.tick(1);
        for (int c = 0; c < 4; c++) {
            Check.due("the error by what there was ahead of the first tick", goals[c], x.ofController(c, 3));
        }
        x.set(0, 0);
        x.tick(1);
        Check.due("by the first tick", goals[0] - 500, x.ofController(0, 3));
        x.tick(1);
        Check.due("by the tick without a flow", goals[0], x.ofController(0, 3));
        Check.due("the goal of a higher one, driven", Math.max(0, x.ofController(4, 2)), x.ofController(5, 0));
    }

    private static void sumAtFirst() {
        Sentences.test("Controllers: Its sum is 0 at first.");
        HeatTrain x = plant();
        x.tick(3);
        x.control(0, 3000, 99, 99999, 1);
        Check.due("the sum", 0, x.ofController(0, 1));
        x.tick(1);
        Check.due("the sum a tick later", 99 * 2500, x.ofController(0, 1));
        x.control(0, 400, 1, 0, 2);
        Check.due("the sum of another one", 0, x.ofController(1, 1));
    }

    private static void error() {
        Sentences.test("Controllers: In a tick its error is the goal less what it measures;");
        HeatTrain x = plant();
        x.control(0, 500, 0, 0, 1);
        x.tick(1);
        Check.due("above 0", 500, x.ofController(0, 3));
        x.tick(1);
        Check.due("of 0", 0, x.ofController(0, 3));
        x.aim(0, 0, 0);
        Check.due("that of the last tick", 0, x.ofController(0, 3));
        x.tick(1);
        Check.due("below 0", -500, x.ofController(0, 3));
        HeatTrain y = new HeatTrain();
        y.source(1, 300);
        y.control(0, 0, 0, 1, 0);
        y.control(1, 3000, 0, 1, 0);
        y.tick(2);
        Check.due("the least", -3000, y.ofController(0, 3));
        Check.due("the most", 3000, y.ofController(1, 3));
    }

    /** Streams that stay empty, so that an error is the goal. */
    private static void sumIsHeld() {
        Sentences.test("Controllers: its sum is more by the gain times the error, held to -10000000 to 10000000;");
        HeatTrain x = plant();
        x.control(1, 2000, 50, 0, 1);
        x.control(1, 2000, -50, 0, 2);
        x.control(1, 1999, 50, 0, 105);
        x.control(1, 3000, 99, 0, 0);
        x.tick(34);
        Check.due("held above", 10000000, x.ofController(3, 1));
        x.tick(50);
        x.tick(15);
        Check.due("one tick ahead of the most", 9900000, x.ofController(0, 1));
        Check.due("one tick ahead of the least", -9900000, x.ofController(1, 1));
        x.tick(1);
        Check.due("the most", 10000000, x.ofController(0, 1));
        Check.due("the least", -10000000, x.ofController(1, 1));
        Check.due("just below the most", 9995000, x.ofController(2, 1));
        x.tick(1);
        Check.due("no more than the most", 10000000, x.ofController(0, 1));
        Check.due("no less than the least", -10000000, x.ofController(1, 1));
        Check.due("held from 10094950", 10000000, x.ofController(2, 1));
        HeatTrain y = new HeatTrain();
        y.source(1, 300);
        y.source(1, 0);
        y.control(0, 0, 99, 1, 1);
        y.tick(34);
        Check.due("of an error below 0", -99 * 3000 * 33, y.ofController(0, 1));
        y.tick(16);
        Check.due("of an error below 0, held", -10000000, y.ofController(0, 1));
        Check.due("the output by what is held", -9999, y.ofController(0, 2));
        y.aim(0, 3000, 0);
        y.set(0, 0);
        y.tick(1);
        Check.due("and back, from what was held", -10000000, y.ofController(0, 1));
        y.tick(1);
        Check.due("by 99 times 3000", -10000000 + 297000, y.ofController(0, 1));
    }

    private static void output() {
        Sentences.test("Controllers: its output is the base, and its sum divided by 1000, and its feed, together.");
        HeatTrain x = plant();
        x.control(1, 999, 1, 5, 1);
        x.control(1, 999, -1, 5, 2);
        x.control(1, 500, 2, 5, 0);
        x.tick(1);
        Check.due("999 by 1000", 5, x.ofController(0, 2));
        Check.due("-999 by 1000", 5, x.ofController(1, 2));
        Check.due("1000 by 1000", 6, x.ofController(2, 2));
        x.feed(0, 1, 4);
        x.feed(1, 1, -3);
        x.aim(0, 1, 500);
        x.aim(1, 1, 500);
        x.tick(1);
        Check.due("with a feed of -8", 5 + 1 - 8, x.ofController(0, 2));
        Check.due("with a feed of 6", 5 - 1 + 6, x.ofController(1, 2));
        HeatTrain y = new HeatTrain();
        y.source(1, 300);
        y.control(1, 3000, 99, 99999, 0);
        y.feed(0, 0, 500);
        y.set(0, 999);
        y.tick(34);
        Check.due("the most", 99999 + 10000 + 14000, y.ofController(0, 2));
    }

    private static void feed() {
        Sentences.test("Controllers: A feed is of another stream, as it was in the tick ahead: a number of"
            + " hundredths, -500 to 500, times the warmth of that less 200 tenths, divided by 100;");
        HeatTrain x = new HeatTrain();
        x.source(10, 20);
        x.unit(COOLER, 0, 0, 1);
        x.source(10, 300);
        x.source(1, 0);
        x.control(1, 0, 0, 5000, 3);
        Check.refusedOutside("hundredths", Check.ARGUMENT, -500, 500, v -> voidly(() -> x.feed(0, 0, v)));
        x.feed(0, 4, 500);
        x.tick(1);
        Check.due("of the tick ahead of the first", 5000 - 1000, x.ofController(0, 2));
        x.tick(1);
        Check.due("500 times 2800 by 100", 5000 + 14000, x.ofController(0, 2));
        x.feed(0, 4, -500);
        x.tick(1);
        Check.due("-500 times 2800 by 100", 5000 - 14000, x.ofController(0, 2));
        int[] streams = {0, 2, 2, 2, 2, 4, 4};
        int[] hundredths = {500, 99, 100, -99, -100, 0, 1};
        int[] fed = {0, 0, -1, 0, 1, 0, 28};
        for (int i = 0; i < streams.length; i++) {
            x.feed(0, streams[i], hundredths[i]);
            x.tick(1);
            Check.due("of the stream " + streams[i] + " by " + hundredths[i], 5000 + fed[i], x.ofController(0, 2));
        }
    }

    private static long voidly(Runnable call) {
        call.run();
        return 0;
    }

    private static void noFeedAtFirst() {
        Sentences.test("Controllers: none at first.");
        HeatTrain x = plant();
        x.control(0, 500, 0, 7, 1);
        x.tick(1);
        Check.due("with cold streams", 7, x.ofController(0, 2));
        x.tick(1);
        Check.due("with a warm one", 7, x.ofController(0, 2));
        x.feed(0, 0, 100);
        x.control(0, 500, 0, 7, 1);
        x.tick(1);
        Check.due("with a feed", 307, x.ofController(0, 2));
        Check.due("none of another controller", 7, x.ofController(1, 2));
    }

    private static void cascades() {
        Sentences.test("Controllers: A controller that drives a goal sets it to its output, held to 0 to 3000, at"
            + " once, if there is that controller, and it measures.");
        HeatTrain x = plant();
        x.control(1, 0, 0, 3000, 101);
        x.control(1, 7, 1, 1, 102);
        x.control(1, 7, -99, 0, 103);
        x.control(1, 7, 0, 3001, 104);
        x.control(1, 7, 0, 0, 105);
        x.control(1, 7, 0, 0, 1);
        Check.due("a goal until a tick", 7, x.ofController(1, 0));
        x.tick(1);
        Check.due("the goal of 3000", 3000, x.ofController(1, 0));
        Check.due("in the same tick", 3000, x.ofController(1, 3));
        Check.due("the goal of an output of 4", 1 + 3, x.ofController(2, 0));
        Check.due("an output of 0", 0, x.ofController(2, 2));
        Check.due("the goal of it", 0, x.ofController(3, 0));
        Check.due("the goal of 3001, held", 3000, x.ofController(4, 0));
        Check.due("the output itself is not held", 3001, x.ofController(3, 2));
        x.feed(2, 1, 1);
        x.tick(1);
        Check.due("an output below 0", -1 - 2, x.ofController(2, 2));
        Check.due("the goal of it, held", 0, x.ofController(3, 0));
        x.aim(5, 9, 3000);
        Check.due("an aim stays until the tick", 9, x.ofController(5, 0));
        x.tick(1);
        Check.due("and is driven over", 0, x.ofController(5, 0));
        Check.due("the one that nothing drives keeps its goal", 0, x.ofController(0, 0));
        cascadesToNone();
    }

    private static void cascadesToNone() {
        HeatTrain x = plant();
        x.control(1, 0, 0, 50, 101);
        x.control(1, 0, 0, 60, 105);
        x.tick(1);
        Check.due("the goal by the first one", 50, x.ofController(1, 0));
        Check.due("one that drives none has its output", 60, x.ofController(1, 2));
        x.control(1, 2, 0, 0, 1);
        x.control(1, 3, 0, 0, 1);
        x.control(1, 4, 0, 70, 105);
        x.tick(1);
        for (int c = 2; c < 5; c++) {
            Check.due("the goal of " + c + ", which is not driven", c, x.ofController(c, 0));
        }
        Check.due("the one that two drive, made later", 5, x.control(1, 6, 0, 0, 1));
        Check.due("its goal until a tick", 6, x.ofController(5, 0));
        x.tick(1);
        Check.due("its goal by the later one of both", 70, x.ofController(5, 0));
        HeatTrain y = plant();
        y.control(1, 0, 0, 50, 101);
        y.ratio(0, 100, 1);
        y.tick(2);
        Check.due("a ratio station has no goal", 0, y.ofController(1, 0));
        Check.due("and its output is its own", 100, y.ofController(1, 2));
    }

    private static void ratioStations() {
        Sentences.test("Controllers: A ratio station, in place of a controller that measures: its output is the flow"
            + " of a stream, as it was in the tick ahead, times so many hundredths, divided by 100.");
        HeatTrain x = new HeatTrain();
        x.source(199, 10);
        x.source(7, 10);
        int[] hundredths = {0, 1, 50, 100, 150, 999};
        int[] outputs = {0, 1, 99, 199, 298, 1988};
        for (int c = 0; c < 6; c++) {
            Check.due("ratio", c, x.ratio(0, hundredths[c], 1));
        }
        Check.refused("a seventh of both", Check.STATE, () -> x.ratio(0, 1, 1));
        Check.refused("a seventh controller", Check.STATE, () -> x.control(0, 1, 1, 1, 1));
        x.tick(1);
        for (int c = 0; c < 6; c++) {
            Check.due("the flow ahead of the first tick", 0, x.ofController(c, 2));
        }
        x.set(0, 0);
        x.tick(1);
        for (int c = 0; c < 6; c++) {
            Check.due("199 times " + hundredths[c], outputs[c], x.ofController(c, 2));
        }
        x.tick(1);
        Check.due("the flow of 0, a tick later", 0, x.ofController(5, 2));
        HeatTrain y = Trains.gathering();
        y.ratio(22, 999, 0);
        y.select(0);
        Trains.tickTo(y, 300);
        Check.due("1791207 times 999 by 100", 17894157, y.ofController(0, 2));
    }

    private static void leastOrGreatest() {
        Sentences.test("Controllers: Of all controllers and ratio stations that drive one unit the least output is"
            + " taken, or the greatest, as told for the unit, the least at first;");
        HeatTrain x = plant();
        x.control(1, 0, 0, 40, 1);
        x.control(1, 0, 0, 30, 1);
        x.ratio(0, 35, 1);
        x.control(1, 0, 0, 50, 1);
        x.control(1, 0, 0, 60, 2);
        x.tick(1);
        Check.due("a station without a flow yet is the least", 0, x.ofUnit(1, 0));
        HeatTrain y = plant();
        y.control(1, 0, 0, 40, 1);
        y.control(1, 0, 0, 30, 1);
        y.control(1, 0, 0, 50, 1);
        y.tick(1);
        Check.due("the least of three", 30, y.ofUnit(1, 0));
        HeatTrain z = plant();
        z.select(1);
        z.control(1, 0, 0, 40, 1);
        z.control(1, 0, 0, 30, 1);
        z.control(1, 0, 0, 50, 1);
        z.control(1, 0, 0, 60, 2);
        z.control(1, 0, 0, 70, 2);
        z.tick(1);
        Check.due("the greatest of three", 50, z.ofUnit(1, 0));
        Check.due("another unit keeps the least", 60, z.ofUnit(2, 0));
        z.ratio(0, 51, 1);
        z.tick(1);
        Check.due("the greatest is a station's", 51, z.ofUnit(1, 0));
        z.select(1);
        z.tick(1);
        Check.due("the least again, which all follow", 51, z.ofUnit(1, 0));
        z.set(0, 50);
        z.tick(2);
        Check.due("the least is a station's", 25, z.ofUnit(1, 0));
        HeatTrain w = plant();
        w.control(1, 0, 0, 40, 1);
        w.tick(1);
        Check.due("the least of one", 40, w.ofUnit(1, 0));
        w.select(1);
        w.tick(1);
        Check.due("the greatest of one", 40, w.ofUnit(1, 0));
    }

    private static void sumsOfOthers() {
        Sentences.test("Controllers: the sums of controllers with another output become (that, not yet held to a"
            + " range, less base and feed) times 1000, held likewise.");
        HeatTrain x = plant();
        x.control(1, 1500, 1, 10, 1);
        x.control(1, 0, 0, 11, 1);
        x.control(1, 0, 0, 12, 1);
        x.control(1, 0, 0, 13, 2);
        x.feed(2, 1, -3);
        x.tick(1);
        Check.due("the one that is taken", 1500, x.ofController(0, 1));
        Check.due("another one with the same output", 0, x.ofController(1, 1));
        Check.due("11 less 12, less 6", -7000, x.ofController(2, 1));
        Check.due("its output stays its own", 18, x.ofController(2, 2));
        Check.due("one that drives another unit", 0, x.ofController(3, 1));
        x.feed(2, 1, 0);
        Check.due("a feed of then", -7000, x.ofController(2, 1));
        HeatTrain y = plant();
        y.control(1, 0, 0, 10, 1);
        y.control(1, 0, 0, 0, 1);
        y.feed(1, 1, 20);
        y.tick(1);
        Check.due("an output below the range", -40, y.ofController(1, 2));
        Check.due("is held for the unit", 0, y.ofUnit(1, 0));
        Check.due("not for the sum", -50000, y.ofController(0, 1));
        HeatTrain z = plant();
        z.select(1);
        z.control(1, 0, 0, 1010, 1);
        z.control(1, 0, 0, 10, 1);
        z.ratio(0, 0, 1);
        z.tick(1);
        Check.due("an output above the range is held for the unit", 999, z.ofUnit(1, 0));
        Check.due("not for the sum", 1000000, z.ofController(1, 1));
        Check.due("a station has no sum", 0, z.ofController(2, 1));
        HeatTrain w = plant();
        w.select(2);
        w.control(1, 0, 0, 99999, 2);
        w.control(1, 0, 0, 95000, 2);
        w.feed(0, 1, -500);
        w.tick(1);
        Check.due("an output above the range of a COOLER is held for it", 99999, w.ofUnit(2, 0));
        Check.due("not for the sum, 100999 less 95000", 5999000, w.ofController(1, 1));
        sumsOfOthersAreHeld();
    }

    private static void sumsOfOthersAreHeld() {
        HeatTrain x = plant();
        x.control(1, 0, 0, 0, 1);
        x.control(1, 0, 0, 9999, 1);
        x.control(1, 0, 0, 10000, 1);
        x.control(1, 0, 0, 10001, 1);
        x.control(1, 0, 0, 99999, 1);
        x.tick(1);
        int[] sums = {0, -9999000, -10000000, -10000000, -10000000};
        for (int c = 0; c < 5; c++) {
            Check.due("the sum of " + c, sums[c], x.ofController(c, 1));
        }
        HeatTrain y = plant();
        y.select(1);
        y.control(1, 0, 0, 99999, 1);
        y.control(1, 0, 0, 90000, 1);
        y.control(1, 0, 0, 89999, 1);
        y.control(1, 0, 0, 89998, 1);
        y.control(1, 0, 0, 0, 1);
        y.tick(1);
        int[] sumsAbove = {0, 9999000, 10000000, 10000000, 10000000};
        for (int c = 0; c < 5; c++) {
            Check.due("the sum above of " + c, sumsAbove[c], y.ofController(c, 1));
        }
    }

    private static void heldToTheKind() {
        Sentences.test("Controllers: The number of the unit becomes what is taken, held to the range of its kind.");
        int[] most = {999, 100, 9999, 99999};
        for (int u = 0; u < 4; u++) {
            driveTo("the most of ", u, most[u], 0, most[u]);
            driveTo("one less than the most of ", u, most[u] - 1, 0, most[u] - 1);
            driveTo("more than the most of ", u, u == 3 ? 99999 : most[u] + 1, u == 3 ? -1 : 0, most[u]);
            driveTo("far more than the most of ", u, 99999, -500, most[u]);
            driveTo("the least of ", u, 0, 0, 0);
            driveTo("one more than the least of ", u, 1, 0, 1);
            driveTo("less than the least of ", u, 1, 1, 0);
            driveTo("far less than the least of ", u, 0, 500, 0);
        }
    }

    /** By a feed of an empty stream: a hundredth of it is 2 less. */
    private static void driveTo(String call, int unit, int base, int hundredths, int want) {
        HeatTrain x = new HeatTrain();
        x.source(100, 50);
        x.unit(SPLIT, 0, 0, 50);
        x.unit(EXCHANGE, 2, 3, 50);
        x.unit(COOLER, 4, 0, 50);
        x.control(1, 0, 0, base, unit);
        x.feed(0, 1, hundredths);
        x.tick(1);
        Check.due(call + "the unit " + unit, want, x.ofUnit(unit, 0));
    }
}
