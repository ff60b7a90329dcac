/** The sentences of the promises 7 to 13: control, ratio, feed, aim, select, tick, quit. */
final class ControllerCallSentences {
    private static final int SPLIT = HeatTrain.SPLIT, MIX = HeatTrain.MIX;
    private static final int EXCHANGE = HeatTrain.EXCHANGE, COOLER = HeatTrain.COOLER;

    private ControllerCallSentences() {
    }

    static void run() {
        controlCall();
        controlNumbers();
        controlUnits();
        controlRefused();
        ratioCall();
        ratioRefused();
        feedCall();
        feedRefused();
        aimCall();
        aimRefused();
        selectCall();
        tickCall();
        tickRefused();
        quitCall();
    }

    /** The unit 0 gives 100 of 50 degrees, the unit 1 is a source to be driven, the unit 2 mixes both. */
    private static HeatTrain plant() {
        HeatTrain x = new HeatTrain();
        x.source(100, 50);
        x.source(10, 0);
        x.unit(MIX, 0, 2, 0);
        return x;
    }

    private static void controlCall() {
        Sentences.test("Promise 7: Makes a controller without a feed.");
        HeatTrain x = plant();
        x.control(0, 700, 10, 50, 1);
        Check.due("its goal", 700, x.ofController(0, 0));
        Check.due("its output at first", 0, x.ofController(0, 2));
        Check.due("its error at first", 0, x.ofController(0, 3));
        Check.due("the unit until a tick", 10, x.ofUnit(1, 0));
        x.tick(1);
        Check.due("its output", 57, x.ofController(0, 2));
        Check.due("the unit", 57, x.ofUnit(1, 0));
        Trains.tickTo(x, 300);
        Check.due("after the last tick", 1, x.control(0, 1, 1, 1, 1));

        Sentences.test("Promise 7: `stream`: what it measures");
        HeatTrain y = plant();
        Check.refusedOutside("the stream", Check.INDEX, 0, 5, v -> y.control(v, 0, 0, 0, 1));
        y.control(0, 600, 0, 100, 1);
        y.control(5, 600, 0, 100, 1);
        y.control(4, 600, 0, 100, 1);
        y.tick(2);
        Check.due("the least", 100, y.ofController(0, 3));
        Check.due("the greatest", 600, y.ofController(1, 3));
        Check.due("one between, of 50000 by 200", 350, y.ofController(2, 3));

        Sentences.test("Promise 7: Returns its number.");
        HeatTrain z = plant();
        for (int c = 0; c < 6; c++) {
            Check.due("the number", c, c == 3 ? z.ratio(0, 1, 1) : z.control(0, 0, 0, 0, 1));
        }
    }

    private static void controlNumbers() {
        Sentences.test("Promise 7: `goal`: 0 to 3000");
        HeatTrain x = plant();
        Check.refusedOutside("the goal", Check.ARGUMENT, 0, 3000, v -> x.control(0, v, 1, 1, 1));
        Check.due("the goal 0", 0, x.control(1, 0, 99, 1, 1));
        Check.due("the goal 3000", 1, x.control(1, 3000, 99, 1, 0));
        x.tick(1);
        Check.due("the error of 0", 0, x.ofController(0, 3));
        Check.due("the error of 3000", 3000, x.ofController(1, 3));

        Sentences.test("Promise 7: `gain`: -99 to 99");
        HeatTrain y = plant();
        Check.refusedOutside("the gain", Check.ARGUMENT, -99, 99, v -> y.control(0, 10, v, 1, 1));
        Check.due("the gain -99", 0, y.control(1, 10, -99, 1, 1));
        Check.due("the gain 99", 1, y.control(1, 10, 99, 1, 0));
        Check.due("the gain 0", 2, y.control(1, 10, 0, 1, 105));
        y.tick(1);
        Check.due("the sum by -99", -990, y.ofController(0, 1));
        Check.due("the sum by 99", 990, y.ofController(1, 1));
        Check.due("the sum by 0", 0, y.ofController(2, 1));

        Sentences.test("Promise 7: `base`: 0 to 99999");
        HeatTrain z = plant();
        Check.refusedOutside("the base", Check.ARGUMENT, 0, 99999, v -> z.control(0, 10, 1, v, 1));
        Check.due("the base 0", 0, z.control(1, 10, 0, 0, 1));
        Check.due("the base 99999", 1, z.control(1, 10, 0, 99999, 0));
        z.tick(1);
        Check.due("the output of 0", 0, z.ofController(0, 2));
        Check.due("the output of 99999", 99999, z.ofController(1, 2));
    }

    private static void controlUnits() {
        Sentences.test("Promise 7: `unit`: the unit that it drives;");
        HeatTrain x = new HeatTrain();
        x.source(10, 10);
        x.unit(SPLIT, 0, 0, 10);
        x.unit(EXCHANGE, 2, 3, 10);
        x.unit(COOLER, 4, 0, 10);
        Check.refusedOutside("the unit", Check.INDEX, 0, 3, v -> x.control(0, 0, 0, 0, v));
        for (int u = 0; u < 4; u++) {
            Check.due("control", u, x.control(1, 0, 0, 20 + u, u));
        }
        x.tick(1);
        for (int u = 0; u < 4; u++) {
            Check.due("the number of " + u, 20 + u, x.ofUnit(u, 0));
        }

        Sentences.test("Promise 7: 100 and a number for that controller, which need not be there yet, but is higher");
        HeatTrain y = plant();
        for (int c = 0; c < 5; c++) {
            int number = c;
            Check.refusedOutside("a goal for " + c, Check.INDEX, 101 + c, 105, v -> y.control(0, 0, 0, 0, v));
            Check.refused("its own goal", Check.INDEX, () -> y.control(0, 0, 0, 0, 100 + number));
            Check.due("a goal that is not there yet", c, y.control(1, 0, 0, 40 + c, c % 2 == 0 ? 101 + c : 105));
        }
        Check.refusedOutside("a goal for the last one", Check.INDEX, 0, 2, v -> y.control(0, 0, 0, 0, v));
        Check.refused("the last one's own goal", Check.INDEX, () -> y.control(0, 0, 0, 0, 105));
        y.control(1, 7, 0, 0, 1);
        y.tick(1);
        Check.due("the goal 1", 40, y.ofController(1, 0));
        Check.due("the goal 2, which none drives", 0, y.ofController(2, 0));
        Check.due("the goal 3", 42, y.ofController(3, 0));
        Check.due("the goal 5", 44, y.ofController(5, 0));
    }

    private static void controlRefused() {
        Sentences.test("Promise 7: Throws `IndexOutOfBoundsException` if there is no such stream or unit, or the"
            + " controller is above 5, or not higher");
        HeatTrain x = plant();
        HeatTrain empty = new HeatTrain();
        Check.refused("without units", Check.INDEX, () -> empty.control(0, 0, 0, 0, 0));
        Check.refused("without units, on a controller", Check.INDEX, () -> empty.control(0, 0, 0, 0, 101));
        int[] streams = {Integer.MIN_VALUE, -1, 6, 24, Integer.MAX_VALUE};
        for (int stream : streams) {
            Check.refused("the stream " + stream, Check.INDEX, () -> x.control(stream, 0, 0, 0, 1));
            Check.refused("the stream " + stream + " for a goal", Check.INDEX, () -> x.control(stream, 0, 0, 0, 105));
        }
        int[] units = {Integer.MIN_VALUE, Integer.MIN_VALUE + 101, -1, 3, 12, 99, 100, 106, 200, Integer.MAX_VALUE};
        for (int unit : units) {
            Check.refused("the unit " + unit, Check.INDEX, () -> x.control(0, 0, 0, 0, unit));
        }
        Check.due("the lowest of the higher ones", 0, x.control(0, 0, 0, 0, 101));
        Check.refused("the same of the next one, itself", Check.INDEX, () -> x.control(0, 0, 0, 0, 101));
        Check.refused("a lower one", Check.INDEX, () -> x.control(0, 0, 0, 0, 100));
        Check.due("the highest", 1, x.control(0, 0, 0, 0, 105));

        Sentences.test("Promise 7: Throws `IllegalArgumentException` if goal, gain or base is out of range, or the"
            + " unit is a MIX");
        Check.refused("the goal below", Check.ARGUMENT, () -> x.control(0, -1, 0, 0, 0));
        Check.refused("the goal above", Check.ARGUMENT, () -> x.control(0, 3001, 0, 0, 105));
        Check.refused("the gain below", Check.ARGUMENT, () -> x.control(0, 0, -100, 0, 0));
        Check.refused("the gain above", Check.ARGUMENT, () -> x.control(0, 0, 100, 0, 105));
        Check.refused("the base below", Check.ARGUMENT, () -> x.control(0, 0, 0, -1, 0));
        Check.refused("the base above", Check.ARGUMENT, () -> x.control(0, 0, 0, 100000, 105));
        Check.refused("a MIX", Check.ARGUMENT, () -> x.control(0, 0, 0, 0, 2));

        Sentences.test("Promise 7: Throws `IllegalStateException` if there are 6");
        Check.due("none came of these", 2, x.control(0, 0, 0, 0, 0));
        Check.due("the fourth", 3, x.ratio(0, 0, 0));
        Check.due("the fifth", 4, x.control(0, 0, 0, 0, 105));
        Check.due("the sixth", 5, x.control(0, 0, 0, 0, 0));
        Check.refused("the seventh", Check.STATE, () -> x.control(0, 0, 0, 0, 0));
        Check.refused("the seventh of a goal, as none is higher", Check.INDEX, () -> x.control(0, 0, 0, 0, 105));
        Check.refused("no controller 6", Check.INDEX, () -> x.ofController(6, 0));
    }

    private static void ratioCall() {
        Sentences.test("Promise 8: Makes a ratio station.");
        HeatTrain x = plant();
        x.ratio(0, 150, 1);
        Check.due("its output at first", 0, x.ofController(0, 2));
        x.tick(2);
        Check.due("its output", 150, x.ofController(0, 2));
        Check.due("the unit", 150, x.ofUnit(1, 0));
        Trains.tickTo(x, 300);
        Check.due("after the last tick", 1, x.ratio(0, 1, 1));

        Sentences.test("Promise 8: `stream`: of which it takes the flow");
        HeatTrain y = plant();
        y.unit(SPLIT, 4, 0, 0);
        Check.refusedOutside("the stream", Check.INDEX, 0, 7, v -> y.ratio(v, 0, 3));
        y.ratio(0, 100, 3);
        y.ratio(7, 100, 3);
        y.ratio(2, 100, 3);
        y.tick(2);
        Check.due("the least", 100, y.ofController(0, 2));
        Check.due("the greatest, all that the SPLIT leaves", 110, y.ofController(1, 2));
        Check.due("one between", 10, y.ofController(2, 2));

        Sentences.test("Promise 8: `hundredths`: 0 to 999");
        HeatTrain z = plant();
        Check.refusedOutside("the hundredths", Check.ARGUMENT, 0, 999, v -> z.ratio(0, v, 1));
        z.ratio(0, 0, 1);
        z.ratio(0, 999, 1);
        z.tick(2);
        Check.due("0", 0, z.ofController(0, 2));
        Check.due("999", 999, z.ofController(1, 2));

        Sentences.test("Promise 8: `unit`: the unit that it drives");
        HeatTrain w = plant();
        Check.refused("the unit -1", Check.INDEX, () -> w.ratio(0, 1, -1));
        Check.refused("the unit 3", Check.INDEX, () -> w.ratio(0, 1, 3));
        w.ratio(0, 7, 1);
        w.tick(2);
        Check.due("its number", 7, w.ofUnit(1, 0));
        Check.due("not another one's", 100, w.ofUnit(0, 0));

        Sentences.test("Promise 8: Returns its number, among the controllers.");
        HeatTrain v = plant();
        for (int c = 0; c < 6; c++) {
            Check.due("the number", c, c == 2 ? v.control(0, 0, 0, 0, 1) : v.ratio(0, 1, 1));
        }
    }

    private static void ratioRefused() {
        Sentences.test("Promise 8: Throws `IndexOutOfBoundsException` if there is no such stream or unit");
        HeatTrain x = plant();
        HeatTrain empty = new HeatTrain();
        Check.refused("without units", Check.INDEX, () -> empty.ratio(0, 0, 0));
        int[] streams = {Integer.MIN_VALUE, -1, 6, 24, Integer.MAX_VALUE};
        for (int stream : streams) {
            Check.refused("the stream " + stream, Check.INDEX, () -> x.ratio(stream, 0, 1));
        }
        int[] units = {Integer.MIN_VALUE, -1, 3, 12, 100, 101, 105, Integer.MAX_VALUE};
        for (int unit : units) {
            Check.refused("the unit " + unit, Check.INDEX, () -> x.ratio(0, 0, unit));
        }

        Sentences.test("Promise 8: Throws `IllegalArgumentException` if hundredths is out of range, or the unit is a"
            + " MIX");
        Check.refused("-1 hundredths", Check.ARGUMENT, () -> x.ratio(0, -1, 1));
        Check.refused("1000 hundredths", Check.ARGUMENT, () -> x.ratio(0, 1000, 1));
        Check.refused("a MIX", Check.ARGUMENT, () -> x.ratio(0, 0, 2));
        Check.refused("a MIX and hundredths", Check.ARGUMENT, () -> x.ratio(0, -1, 2));

        Sentences.test("Promise 8: Throws `IllegalStateException` if there are 6");
        for (int c = 0; c < 6; c++) {
            Check.due("none came of these", c, c % 2 == 0 ? x.ratio(0, 0, 1) : x.control(0, 0, 0, 0, 1));
        }
        Check.refused("the seventh", Check.STATE, () -> x.ratio(0, 0, 1));
        Check.refused("no controller 6", Check.INDEX, () -> x.ofController(6, 2));
    }

    private static long feed(HeatTrain x, int controller, int stream, int hundredths) {
        x.feed(controller, stream, hundredths);
        return 0;
    }

    /** The error is 0 and the base 5000, so that an output tells the feed; the stream 0 is of 500 tenths. */
    private static HeatTrain feedPlant() {
        HeatTrain x = plant();
        x.control(1, 0, 0, 5000, 1);
        x.ratio(0, 10, 1);
        x.control(1, 0, 0, 5000, 105);
        x.select(1);
        return x;
    }

    private static void feedCall() {
        Sentences.test("Promise 9: Gives a controller a feed, or another one.");
        HeatTrain x = feedPlant();
        x.tick(1);
        x.feed(0, 0, 100);
        Check.due("until a tick", 5000, x.ofController(0, 2));
        x.tick(1);
        Check.due("100 of 300", 5300, x.ofController(0, 2));
        x.feed(0, 0, 10);
        x.tick(1);
        Check.due("another one in its place", 5030, x.ofController(0, 2));
        Check.due("none of another controller", 5000, x.ofController(2, 2));

        Sentences.test("Promise 9: `controller`: its number");
        HeatTrain y = feedPlant();
        Check.refusedOutside("the controller", Check.INDEX, 0, 2, v -> feed(y, v, 0, 0));
        y.feed(0, 1, 1);
        y.feed(2, 1, 2);
        y.tick(1);
        Check.due("the least", 4998, y.ofController(0, 2));
        Check.due("the greatest", 4996, y.ofController(2, 2));

        Sentences.test("Promise 9: `stream`: a stream");
        HeatTrain z = feedPlant();
        Check.refusedOutside("the stream", Check.INDEX, 0, 5, v -> feed(z, 0, v, 0));
        z.feed(0, 0, 100);
        z.feed(2, 5, 100);
        z.tick(2);
        Check.due("the least", 5300, z.ofController(0, 2));
        Check.due("the greatest", 4800, z.ofController(2, 2));

        Sentences.test("Promise 9: `hundredths`: -500 to 500");
        HeatTrain w = feedPlant();
        Check.refusedOutside("the hundredths", Check.ARGUMENT, -500, 500, v -> feed(w, 0, 0, v));
        w.feed(0, 0, -500);
        w.feed(2, 0, 500);
        w.tick(2);
        Check.due("-500", 3500, w.ofController(0, 2));
        Check.due("500", 6500, w.ofController(2, 2));
        w.feed(0, 0, 0);
        w.tick(1);
        Check.due("0", 5000, w.ofController(0, 2));
    }

    private static void feedRefused() {
        Sentences.test("Promise 9: Throws `IndexOutOfBoundsException` if there is no such controller or stream");
        HeatTrain none = plant();
        Check.refused("without controllers", Check.INDEX, () -> feed(none, 0, 0, 0));
        HeatTrain x = feedPlant();
        x.feed(0, 0, 100);
        int[] controllers = {Integer.MIN_VALUE, -1, 3, 6, 100, Integer.MAX_VALUE};
        for (int controller : controllers) {
            Check.refused("the controller " + controller, Check.INDEX, () -> feed(x, controller, 0, 0));
        }
        int[] streams = {Integer.MIN_VALUE, -1, 6, 24, Integer.MAX_VALUE};
        for (int stream : streams) {
            Check.refused("the stream " + stream, Check.INDEX, () -> feed(x, 0, stream, 0));
            Check.refused("the stream " + stream + " of a station", Check.INDEX, () -> feed(x, 1, stream, 0));
        }

        Sentences.test("Promise 9: Throws `IllegalArgumentException` if hundredths is out of range");
        Check.refused("-501", Check.ARGUMENT, () -> feed(x, 0, 0, -501));
        Check.refused("501", Check.ARGUMENT, () -> feed(x, 0, 0, 501));
        Check.refused("501 of a station", Check.ARGUMENT, () -> feed(x, 1, 0, 501));

        Sentences.test("Promise 9: Throws `IllegalStateException` if it is a ratio station");
        Check.refused("a station", Check.STATE, () -> feed(x, 1, 0, 500));
        Check.refused("a station, of 0", Check.STATE, () -> feed(x, 1, 0, 0));
        x.tick(2);
        Check.due("the station is as it was", 10, x.ofController(1, 2));
        Check.due("the feed is as it was", 5300, x.ofController(0, 2));
    }

    private static void aimCall() {
        Sentences.test("Promise 10: Sets the goal and the limit of a controller.");
        HeatTrain x = plant();
        x.control(1, 500, 10, 0, 1);
        x.control(1, 500, 10, 0, 1);
        x.aim(0, 600, 599);
        Check.due("the goal", 600, x.ofController(0, 0));
        Check.due("of the other one", 500, x.ofController(1, 0));
        Check.due("the error until a tick", 0, x.ofController(0, 3));
        x.tick(1);
        Check.due("the error", 600, x.ofController(0, 3));
        Check.due("more than the limit", 1, x.alarms());

        Sentences.test("Promise 10: `controller`: its number");
        Check.refusedOutside("the controller", Check.INDEX, 0, 1, v -> x.aim(v, 0, 0));
        Check.due("the least", 600, x.aim(0, 1, 0));
        Check.due("the greatest", 500, x.aim(1, 2, 0));
        Check.due("the goal of the least", 1, x.ofController(0, 0));
        Check.due("the goal of the greatest", 2, x.ofController(1, 0));

        Sentences.test("Promise 10: `goal`: 0 to 3000");
        HeatTrain y = plant();
        y.control(1, 500, 10, 0, 1);
        Check.refusedOutside("the goal", Check.ARGUMENT, 0, 3000, v -> y.aim(0, v, 1));
        Check.due("0", 500, y.aim(0, 0, 1));
        Check.due("3000", 0, y.aim(0, 3000, 1));
        Check.due("the goal", 3000, y.ofController(0, 0));

        Sentences.test("Promise 10: `limit`: 0 to 3000");
        HeatTrain z = plant();
        z.control(1, 3000, 10, 0, 1);
        z.control(1, 0, 10, 0, 1);
        Check.refusedOutside("the limit", Check.ARGUMENT, 0, 3000, v -> z.aim(0, 3000, v));
        z.aim(0, 3000, 3000);
        z.aim(1, 0, 0);
        z.tick(1);
        Check.due("an error of 3000, and one of 0", 0, z.alarms());
        z.aim(0, 3000, 2999);
        z.aim(1, 1, 0);
        z.tick(1);
        Check.due("a limit of 2999, and an error of 1", 2, z.alarms());

        Sentences.test("Promise 10: Returns the goal before.");
        HeatTrain w = plant();
        w.control(1, 0, 0, 70, 101);
        w.control(1, 12, 0, 0, 1);
        Check.due("as it was made", 12, w.aim(1, 13, 0));
        Check.due("as it was aimed", 13, w.aim(1, 14, 0));
        w.tick(1);
        Check.due("as it was driven", 70, w.aim(1, 15, 0));
    }

    private static void aimRefused() {
        Sentences.test("Promise 10: Throws `IndexOutOfBoundsException` if there is no such controller");
        HeatTrain x = plant();
        Check.refused("without controllers", Check.INDEX, () -> x.aim(0, 0, 0));
        x.control(1, 500, 10, 0, 1);
        x.ratio(0, 10, 1);
        int[] controllers = {Integer.MIN_VALUE, -1, 2, 6, 100, Integer.MAX_VALUE};
        for (int controller : controllers) {
            Check.refused("the controller " + controller, Check.INDEX, () -> x.aim(controller, 0, 0));
        }

        Sentences.test("Promise 10: Throws `IllegalArgumentException` if goal or limit is out of range");
        Check.refused("the goal -1", Check.ARGUMENT, () -> x.aim(0, -1, 0));
        Check.refused("the goal 3001", Check.ARGUMENT, () -> x.aim(0, 3001, 0));
        Check.refused("the limit -1", Check.ARGUMENT, () -> x.aim(0, 0, -1));
        Check.refused("the limit 3001", Check.ARGUMENT, () -> x.aim(0, 0, 3001));
        Check.refused("the limit 3001 of a station", Check.ARGUMENT, () -> x.aim(1, 0, 3001));

        Sentences.test("Promise 10: Throws `IllegalStateException` if it is a ratio station");
        Check.refused("a station", Check.STATE, () -> x.aim(1, 0, 0));
        Check.refused("a station, of 3000", Check.STATE, () -> x.aim(1, 3000, 3000));
        Check.due("the station has no goal", 0, x.ofController(1, 0));
        Check.due("the goal is as it was", 500, x.ofController(0, 0));
        x.tick(1);
        Check.due("the limit is as it was", 0, x.alarms());
    }

    private static void selectCall() {
        Sentences.test("Promise 11: Turns round which output of several controllers a unit takes.");
        HeatTrain x = plant();
        x.control(1, 0, 0, 30, 1);
        x.control(1, 0, 0, 40, 1);
        x.select(1);
        x.tick(1);
        Check.due("the greatest", 40, x.ofUnit(1, 0));
        HeatTrain y = plant();
        y.control(1, 0, 0, 30, 1);
        y.control(1, 0, 0, 40, 1);
        y.select(1);
        y.select(1);
        y.select(0);
        y.tick(1);
        Check.due("the least again", 30, y.ofUnit(1, 0));

        Sentences.test("Promise 11: `unit`: its number");
        HeatTrain z = plant();
        Check.due("the least unit", true, z.select(0));
        Check.due("the greatest unit, a MIX", true, z.select(2));
        Check.due("each for itself", true, z.select(1));

        Sentences.test("Promise 11: Returns whether it is the greatest then.");
        Check.due("not the greatest", false, z.select(0));
        Check.due("the greatest again", true, z.select(0));
        z.tick(1);
        Check.due("after a tick", false, z.select(0));

        Sentences.test("Promise 11: Throws `IndexOutOfBoundsException` if there is no such unit");
        Check.refusedOutside("the unit", Check.INDEX, 0, 2, v -> z.select(v) ? 1 : 0);
        HeatTrain empty = new HeatTrain();
        Check.refused("without units", Check.INDEX, () -> empty.select(0) ? 1 : 0);
        Check.due("the others stay", false, z.select(2));
    }

    private static void tickCall() {
        Sentences.test("Promise 12: Lets ticks go by.");
        HeatTrain x = new HeatTrain();
        x.source(1, 100);
        x.unit(MIX, 0, 2, 0);
        x.tick(1);
        Check.due("one", 1, x.of(2, 0));
        x.tick(50);
        Check.due("fifty more", 51, x.of(2, 0));
        x.tick(2);
        Check.due("two more", 53, x.of(2, 0));

        Sentences.test("Promise 12: `ticks`: 1 to 50");
        HeatTrain y = new HeatTrain();
        Check.refusedOutside("ticks", Check.ARGUMENT, 1, 50, v -> y.tick(v));
        Check.due("1", 1, y.tick(1));
        Check.due("50", 51, y.tick(50));
        Check.refusedOutside("ticks later", Check.ARGUMENT, 1, 50, v -> y.tick(v));
        Check.due("49", 100, y.tick(49));

        Sentences.test("Promise 12: Returns the tick then.");
        Check.due("two more", 102, y.tick(2));
        Check.due("one more", 103, y.tick(1));
        Check.due("as it is asked", 103, y.now());
    }

    private static void tickRefused() {
        Sentences.test("Promise 12: Throws `IllegalArgumentException` if ticks is out of range");
        HeatTrain x = new HeatTrain();
        x.source(1, 100);
        int[] ticks = {Integer.MIN_VALUE, -50, -1, 0, 51, 300, Integer.MAX_VALUE};
        for (int some : ticks) {
            Check.refused("tick of " + some, Check.ARGUMENT, () -> x.tick(some));
        }
        Check.due("none has gone by", 0, x.now());
        Check.due("no flow", 0, x.of(0, 0));

        Sentences.test("Promise 12: Throws `IllegalStateException` if it would be above 300");
        for (int t = 50; t <= 250; t += 50) {
            Check.due("tick", t, x.tick(50));
        }
        Check.due("251", 251, x.tick(1));
        Check.refused("50 more", Check.STATE, () -> x.tick(50));
        Check.due("none of these", 251, x.now());
        Check.due("49 more", 300, x.tick(49));
        Check.refused("1 more", Check.STATE, () -> x.tick(1));
        Check.refused("50 more at last", Check.STATE, () -> x.tick(50));
        Check.refused("51 more at last", Check.ARGUMENT, () -> x.tick(51));
        Check.due("300", 300, x.now());
        HeatTrain y = new HeatTrain();
        Trains.tickTo(y, 250);
        Check.due("50 more at 250", 300, y.tick(50));
    }

    private static void quitCall() {
        Sentences.test("Promise 13: Takes the alarm that is told first away: the controller that it is of;");
        HeatTrain x = plant();
        x.control(1, 600, 0, 0, 1);
        x.control(1, 800, 0, 0, 1);
        x.control(1, 700, 0, 0, 1);
        x.tick(1);
        Check.due("the first", 1, x.quit());
        Check.due("is taken away", 2, x.alarms());
        Check.due("the second", 2, x.quit());
        x.aim(1, 0, 500);
        x.tick(1);
        x.aim(1, 601, 500);
        x.tick(1);
        Check.due("a later one of more", 1, x.quit());
        Check.due("the last", 0, x.quit());

        Sentences.test("Promise 13: NONE without one.");
        Check.due("after the last", HeatTrain.NONE, x.quit());
        Check.due("again", HeatTrain.NONE, x.quit());
        Check.due("none is there", 0, x.alarms());
        x.tick(1);
        Check.due("an error that stays is no other one", HeatTrain.NONE, x.quit());
        Check.due("of a new one", HeatTrain.NONE, new HeatTrain().quit());
    }
}
