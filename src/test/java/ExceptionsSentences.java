/** The sentences of 'Exceptions', and the constants. */
final class ExceptionsSentences {
    private static final int SPLIT = HeatTrain.SPLIT, MIX = HeatTrain.MIX;
    private static final int EXCHANGE = HeatTrain.EXCHANGE, COOLER = HeatTrain.COOLER;

    private ExceptionsSentences() {
    }

    static void run() {
        noSuchThing();
        outOfRange();
        asTheMethodTells();
        firstNamed();
        firstNamedOfTicks();
        nothingChanges();
        nothingChangesAheadOfTicks();
        none();
        noGain();
        kinds();
    }

    private static void noSuchThing() {
        Sentences.test("Exceptions: IndexOutOfBoundsException: there is no such unit, stream, controller or tick.");
        HeatTrain x = Trains.everything();
        x.tick(5);
        Check.refusedOutside("the unit of set", Check.INDEX, 0, 5, v -> x.set(v, 0));
        Check.refusedOutside("the unit of disturb", Check.INDEX, 0, 5, v -> x.disturb(9, v, 0));
        Check.refusedOutside("the unit of control", Check.INDEX, 0, 5, v -> x.control(0, 0, 0, 0, v));
        Check.refusedOutside("the unit of ratio", Check.INDEX, 0, 5, v -> x.ratio(0, 0, v));
        Check.refusedOutside("the unit of select", Check.INDEX, 0, 5, v -> x.select(v) ? 1 : 0);
        Check.refusedOutside("the unit of ofUnit", Check.INDEX, 0, 5, v -> x.ofUnit(v, 0));
        Check.refusedOutside("the unit of gain", Check.INDEX, 0, 5, v -> x.gain(v, 0));
        Check.refusedOutside("the unit of back", Check.INDEX, 0, 5, v -> x.back(v, 10));
        Check.refusedOutside("the unit of relative", Check.INDEX, 0, 5, v -> x.relative(v, 0, 0, 0));
        Check.refusedOutside("the other unit of relative", Check.INDEX, 0, 5, v -> x.relative(0, v, 0, 0));
        Check.refusedOutside("the stream of unit", Check.INDEX, 0, 13, v -> x.unit(COOLER, v, 0, 0));
        Check.refusedOutside("the second stream of unit", Check.INDEX, 0, 13, v -> x.unit(MIX, 11, v, 0));
        Check.refusedOutside("the stream of back", Check.INDEX, 0, 11, v -> x.back(1, v));
        Check.refusedOutside("the stream of relative", Check.INDEX, 0, 11, v -> x.relative(0, 0, v, 0));
        Check.refusedOutside("the second stream of relative", Check.INDEX, 0, 11, v -> x.relative(0, 0, 0, v));
        Check.refusedOutside("the stream of control", Check.INDEX, 0, 11, v -> x.control(v, 0, 0, 0, 0));
        Check.refusedOutside("the stream of ratio", Check.INDEX, 0, 11, v -> x.ratio(v, 0, 0));
        Check.refusedOutside("the stream of feed", Check.INDEX, 0, 11, v -> feed(x, 0, v, 0));
        Check.refusedOutside("the stream of of", Check.INDEX, 0, 11, v -> x.of(v, 0));
        Check.refusedOutside("the stream of trend", Check.INDEX, 0, 11, v -> x.trend(v, 1));
        Check.refusedOutside("the stream of gain", Check.INDEX, 0, 11, v -> x.gain(0, v));
        Check.refusedOutside("the controller of feed", Check.INDEX, 0, 3, v -> feed(x, v, 0, 0));
        Check.refusedOutside("the controller of aim", Check.INDEX, 0, 3, v -> x.aim(v, 0, 0));
        Check.refusedOutside("the controller of ofController", Check.INDEX, 0, 3, v -> x.ofController(v, 0));
        Check.refusedOutside("the tick of trend", Check.INDEX, 1, 5, v -> x.trend(0, v));
    }

    private static long feed(HeatTrain x, int controller, int stream, int hundredths) {
        x.feed(controller, stream, hundredths);
        return 0;
    }

    private static void outOfRange() {
        Sentences.test("Exceptions: IllegalArgumentException: another argument is out of its range.");
        HeatTrain x = Trains.everything();
        Check.refusedOutside("the flow of source", Check.ARGUMENT, 0, 999, v -> x.source(v, 0));
        Check.refusedOutside("the warmth of source", Check.ARGUMENT, 0, 300, v -> x.source(0, v));
        Check.refusedOutside("the kind of unit", Check.ARGUMENT, 1, 4, v -> x.unit(v, 10, 11, 0));
        Check.refusedOutside("the number of set", Check.ARGUMENT, 0, 999, v -> x.set(0, v));
        Check.refusedOutside("the number of disturb", Check.ARGUMENT, 0, 999, v -> x.disturb(9, 0, v));
        Check.refusedOutside("the tick of disturb", Check.ARGUMENT, 1, 300, v -> x.disturb(v, 0, 0));
        Check.refusedOutside("the goal of control", Check.ARGUMENT, 0, 3000, v -> x.control(0, v, 0, 0, 0));
        Check.refusedOutside("the gain of control", Check.ARGUMENT, -99, 99, v -> x.control(0, 0, v, 0, 0));
        Check.refusedOutside("the base of control", Check.ARGUMENT, 0, 99999, v -> x.control(0, 0, 0, v, 0));
        Check.refusedOutside("the hundredths of ratio", Check.ARGUMENT, 0, 999, v -> x.ratio(0, v, 0));
        Check.refusedOutside("the hundredths of feed", Check.ARGUMENT, -500, 500, v -> feed(x, 0, 0, v));
        Check.refusedOutside("the goal of aim", Check.ARGUMENT, 0, 3000, v -> x.aim(0, v, 0));
        Check.refusedOutside("the limit of aim", Check.ARGUMENT, 0, 3000, v -> x.aim(0, 0, v));
        Check.refusedOutside("the ticks of tick", Check.ARGUMENT, 1, 50, v -> x.tick(v));
        Check.refusedOutside("what of of", Check.ARGUMENT, 0, 2, v -> x.of(0, v));
        Check.refusedOutside("what of ofUnit", Check.ARGUMENT, 0, 1, v -> x.ofUnit(0, v));
        Check.refusedOutside("what of ofController", Check.ARGUMENT, 0, 3, v -> x.ofController(0, v));
    }

    private static void asTheMethodTells() {
        Sentences.test("Exceptions: IllegalStateException: as the method tells.");
        HeatTrain x = Trains.everything();
        Check.refused("unit on a stream that is taken", Check.STATE, () -> x.unit(COOLER, 0, 0, 0));
        Check.refused("back to a stream that is taken", Check.STATE, () -> x.back(1, 8));
        Check.refused("feed of a ratio station", Check.STATE, () -> feed(x, 2, 0, 0));
        Check.refused("aim of a ratio station", Check.STATE, () -> x.aim(2, 0, 0));
        x.ratio(0, 0, 3);
        x.ratio(0, 0, 3);
        Check.refused("control, with 6", Check.STATE, () -> x.control(0, 0, 0, 0, 0));
        Check.refused("ratio, with 6", Check.STATE, () -> x.ratio(0, 0, 0));
        for (int i = 3; i < 40; i++) {
            x.disturb(300, 0, 0);
        }
        Check.refused("disturb, with 40 to come", Check.STATE, () -> x.disturb(300, 0, 0));
        x.tick(1);
        Check.refused("source after a tick", Check.STATE, () -> x.source(0, 0));
        Check.refused("unit after a tick", Check.STATE, () -> x.unit(COOLER, 11, 0, 0));
        Check.refused("back after a tick", Check.STATE, () -> x.back(1, 10));
        Trains.tickTo(x, 300);
        Check.refused("tick after 300", Check.STATE, () -> x.tick(1));
    }

    private static void firstNamed() {
        Sentences.test("Exceptions: If several apply, the one that is named first in the throws clause is thrown.");
        HeatTrain x = Trains.everything();
        x.ratio(0, 0, 3);
        x.ratio(0, 0, 3);
        for (int i = 3; i < 40; i++) {
            x.disturb(300, 0, 0);
        }
        Check.refused("unit: kind and stream", Check.ARGUMENT, () -> x.unit(5, -1, -1, 0));
        Check.refused("unit: kind and number", Check.ARGUMENT, () -> x.unit(0, 0, 0, -1));
        Check.refused("unit: stream and number", Check.INDEX, () -> x.unit(COOLER, 14, 0, -1));
        Check.refused("unit: second stream and number", Check.INDEX, () -> x.unit(EXCHANGE, 10, 14, -1));
        Check.refused("unit: second stream and first taken", Check.INDEX, () -> x.unit(MIX, 0, -1, 0));
        Check.refused("unit: both streams, twice", Check.INDEX, () -> x.unit(MIX, 14, 14, 0));
        Check.refused("back: unit and stream taken", Check.INDEX, () -> x.back(6, 0));
        Check.refused("back: stream and SOURCE", Check.INDEX, () -> x.back(0, 12));
        Check.refused("set: unit and number", Check.INDEX, () -> x.set(6, -1));
        Check.refused("disturb: unit and tick", Check.INDEX, () -> x.disturb(0, 6, 0));
        Check.refused("disturb: unit and 40", Check.INDEX, () -> x.disturb(9, -1, 0));
        Check.refused("disturb: tick and 40", Check.ARGUMENT, () -> x.disturb(0, 0, 0));
        Check.refused("disturb: number and 40", Check.ARGUMENT, () -> x.disturb(9, 0, -1));
        Check.refused("disturb: a MIX and 40", Check.ARGUMENT, () -> x.disturb(9, 1, 0));
        Check.refused("control: stream and goal", Check.INDEX, () -> x.control(12, -1, 0, 0, 0));
        Check.refused("control: unit and gain", Check.INDEX, () -> x.control(0, 0, 100, 0, 6));
        Check.refused("control: controller and base", Check.INDEX, () -> x.control(0, 0, 0, -1, 106));
        Check.refused("control: stream and a MIX", Check.INDEX, () -> x.control(-1, 0, 0, 0, 1));
        Check.refused("control: unit and 6", Check.INDEX, () -> x.control(0, 0, 0, 0, -1));
        Check.refused("control: goal and 6", Check.ARGUMENT, () -> x.control(0, 3001, 0, 0, 0));
        Check.refused("control: a MIX and 6", Check.ARGUMENT, () -> x.control(0, 0, 0, 0, 1));
        Check.refused("ratio: stream and hundredths", Check.INDEX, () -> x.ratio(12, -1, 0));
        Check.refused("ratio: unit and hundredths", Check.INDEX, () -> x.ratio(0, -1, 6));
        Check.refused("ratio: stream and a MIX", Check.INDEX, () -> x.ratio(-1, 0, 1));
        Check.refused("ratio: stream and 6", Check.INDEX, () -> x.ratio(-1, 0, 0));
        Check.refused("ratio: hundredths and 6", Check.ARGUMENT, () -> x.ratio(0, 1000, 0));
        Check.refused("ratio: a MIX and 6", Check.ARGUMENT, () -> x.ratio(0, 0, 1));
        Check.refused("feed: controller and hundredths", Check.INDEX, () -> feed(x, 6, 0, 501));
        Check.refused("feed: stream and hundredths", Check.INDEX, () -> feed(x, 0, 12, 501));
        Check.refused("feed: stream and a station", Check.INDEX, () -> feed(x, 2, 12, 0));
        Check.refused("feed: hundredths and a station", Check.ARGUMENT, () -> feed(x, 2, 0, -501));
        Check.refused("aim: controller and goal", Check.INDEX, () -> x.aim(6, -1, 0));
        Check.refused("aim: goal and a station", Check.ARGUMENT, () -> x.aim(2, 3001, 0));
        Check.refused("aim: limit and a station", Check.ARGUMENT, () -> x.aim(2, 0, -1));
        Check.refused("of: stream and what", Check.INDEX, () -> x.of(12, 3));
        Check.refused("ofUnit: unit and what", Check.INDEX, () -> x.ofUnit(6, 2));
        Check.refused("ofController: controller and what", Check.INDEX, () -> x.ofController(6, 4));
    }

    private static void firstNamedOfTicks() {
        HeatTrain x = Trains.everything();
        x.tick(1);
        Check.refused("source: flow and a tick", Check.ARGUMENT, () -> x.source(-1, 0));
        Check.refused("unit: kind and a tick", Check.ARGUMENT, () -> x.unit(5, 10, 0, 0));
        Check.refused("unit: stream and a tick", Check.INDEX, () -> x.unit(COOLER, 14, 0, 0));
        Check.refused("back: stream and a tick", Check.INDEX, () -> x.back(1, 12));
        Trains.tickTo(x, 300);
        Check.refused("tick: ticks and 300", Check.ARGUMENT, () -> x.tick(51));
        Check.refused("tick: 0 and 300", Check.ARGUMENT, () -> x.tick(0));
        HeatTrain y = new HeatTrain();
        for (int u = 0; u < 12; u++) {
            y.source(1, 1);
        }
        Check.refused("source: warmth and 12", Check.ARGUMENT, () -> y.source(0, 301));
        Check.refused("unit: kind and 12", Check.ARGUMENT, () -> y.unit(5, 0, 0, 0));
        Check.refused("unit: stream and 12", Check.INDEX, () -> y.unit(COOLER, -1, 0, 0));
        Check.refused("unit: a stream far above and 12", Check.INDEX, () -> y.unit(COOLER, 26, 0, 0));
    }

    private static void nothingChanges() {
        Sentences.test("Exceptions: A call that throws an exception changes nothing.");
        HeatTrain refused = Trains.everything();
        HeatTrain quiet = Trains.everything();
        refused.tick(2);
        quiet.tick(2);
        String ahead = Trains.answers(refused);
        refuseAll(refused);
        Check.same("what is answered at once", ahead, Trains.answers(refused));
        refused.tick(23);
        quiet.tick(23);
        Check.same("what is answered later", Trains.answers(quiet), Trains.answers(refused));
        Check.due("how many are to come", quiet.disturb(30, 0, 1), refused.disturb(30, 0, 1));
        Check.due("which output is taken", quiet.select(3), refused.select(3));
        Check.due("a controller made then", quiet.control(0, 0, 0, 0, 0), refused.control(0, 0, 0, 0, 0));
        quiet.tick(9);
        refused.tick(9);
        Check.same("what is answered at last", Trains.answers(quiet), Trains.answers(refused));
        Check.same("the alarms", Trains.quits(quiet), Trains.quits(refused));
    }

    private static void refuseAll(HeatTrain x) {
        Check.refused("source", Check.STATE, () -> x.source(1, 1));
        Check.refused("unit", Check.STATE, () -> x.unit(COOLER, 11, 0, 1));
        Check.refused("back", Check.STATE, () -> x.back(1, 11));
        Check.refused("set of a number", Check.ARGUMENT, () -> x.set(0, 1000));
        Check.refused("set of a MIX", Check.ARGUMENT, () -> x.set(1, 1));
        Check.refused("disturb of a number", Check.ARGUMENT, () -> x.disturb(3, 0, 1000));
        Check.refused("disturb of a tick", Check.ARGUMENT, () -> x.disturb(2, 0, 1));
        Check.refused("disturb of a MIX", Check.ARGUMENT, () -> x.disturb(3, 1, 1));
        Check.refused("control of a stream", Check.INDEX, () -> x.control(12, 1, 1, 1, 0));
        Check.refused("control of a MIX", Check.ARGUMENT, () -> x.control(0, 1, 1, 1, 1));
        Check.refused("control of a base", Check.ARGUMENT, () -> x.control(0, 1, 1, -1, 0));
        Check.refused("ratio of a MIX", Check.ARGUMENT, () -> x.ratio(0, 1, 1));
        Check.refused("ratio of hundredths", Check.ARGUMENT, () -> x.ratio(0, -1, 0));
        Check.refused("feed of a stream", Check.INDEX, () -> feed(x, 3, 12, 500));
        Check.refused("feed of hundredths", Check.ARGUMENT, () -> feed(x, 3, 0, 501));
        Check.refused("feed of a station", Check.STATE, () -> feed(x, 2, 0, 500));
        Check.refused("aim of a goal", Check.ARGUMENT, () -> x.aim(3, 3001, 1));
        Check.refused("aim of a limit", Check.ARGUMENT, () -> x.aim(3, 1, 3001));
        Check.refused("aim of a station", Check.STATE, () -> x.aim(2, 1, 1));
        Check.refused("select", Check.INDEX, () -> x.select(6) ? 1 : 0);
        Check.refused("tick", Check.ARGUMENT, () -> x.tick(51));
        Check.refused("trend", Check.INDEX, () -> x.trend(0, 3));
        Check.refused("gain", Check.INDEX, () -> x.gain(0, 12));
        Check.refused("relative", Check.INDEX, () -> x.relative(0, 1, 2, 12));
    }

    private static void nothingChangesAheadOfTicks() {
        HeatTrain x = new HeatTrain();
        x.source(10, 10);
        x.unit(SPLIT, 0, 0, 50);
        Check.refused("a number out of range", Check.STATE, () -> x.unit(COOLER, 2, 0, -1));
        Check.refused("a second stream that is taken", Check.STATE, () -> x.unit(MIX, 2, 0, 0));
        Check.refused("a second stream that is not there", Check.INDEX, () -> x.unit(EXCHANGE, 3, 6, 0));
        Check.refused("a stream twice", Check.STATE, () -> x.unit(EXCHANGE, 4, 4, 0));
        Check.refused("back to a stream that is taken", Check.STATE, () -> x.back(1, 0));
        Check.refused("back of a SOURCE", Check.STATE, () -> x.back(0, 2));
        Check.refused("no unit 2", Check.INDEX, () -> x.ofUnit(2, 0));
        Check.due("the next unit, on streams that are free still", 2, x.unit(EXCHANGE, 2, 3, 0));
        x.tick(1);
        Check.due("the SPLIT takes the source's still", 5, x.of(4, 0));
        Trains.tickTo(x, 299);
        Check.refused("two ticks at 299", Check.STATE, () -> x.tick(2));
        Check.due("no tick of both", 299, x.now());
        Check.due("one tick", 300, x.tick(1));
    }

    private static void none() {
        Sentences.test("Exceptions: The constants: `NONE = -1`: There is none.");
        Check.due("NONE", -1, HeatTrain.NONE);
        Check.due("quit of a new one", -1, new HeatTrain().quit());
    }

    private static void noGain() {
        Sentences.test("Exceptions: `NO_GAIN = -100000`: A number for no quotient.");
        HeatTrain x = new HeatTrain();
        x.source(1, 1);
        Check.due("NO_GAIN", -100000, HeatTrain.NO_GAIN);
        Check.due("of one unit twice", -100000, x.relative(0, 0, 0, 0));
    }

    private static void kinds() {
        Sentences.test("Exceptions: `SOURCE = 0, SPLIT = 1, MIX = 2, EXCHANGE = 3, COOLER = 4`: Kinds of units.");
        Check.due("SOURCE", 0, HeatTrain.SOURCE);
        Check.due("SPLIT", 1, HeatTrain.SPLIT);
        Check.due("MIX", 2, HeatTrain.MIX);
        Check.due("EXCHANGE", 3, HeatTrain.EXCHANGE);
        Check.due("COOLER", 4, HeatTrain.COOLER);
        HeatTrain x = new HeatTrain();
        x.source(10, 20);
        x.unit(1, 0, 0, 50);
        x.unit(2, 2, 3, 0);
        x.unit(4, 4, 0, 10);
        x.unit(3, 6, 5, 0);
        x.tick(1);
        Check.due("the kind 1 splits", 5, x.of(2, 0));
        Check.due("the kind 2 mixes", 10, x.of(4, 0));
        Check.due("the kind 4 cools", 190, x.of(6, 1));
        Trains.due("the kind 3 exchanges", x, 8, 10, 190);
        Trains.due("the kind 3 exchanges", x, 9, 0, 0);
    }
}
