/** The sentences of 'What it is', of 'Terms', and of streams and units. */
final class TermsSentences {
    private static final int SPLIT = HeatTrain.SPLIT, MIX = HeatTrain.MIX;
    private static final int EXCHANGE = HeatTrain.EXCHANGE, COOLER = HeatTrain.COOLER;

    private TermsSentences() {
    }

    static void run() {
        aTrainAndItsControllers();
        fiveHundredTwelveCalls();
        heatIsNamed();
        questionsChangeNothing();
        wholeNumbers();
        roundedTowardsZero();
        twelveUnits();
        twoStreamsOfEach();
        atFirstAndAtLeastZero();
        warmth();
        withoutAFlow();
        lowerAndHigherUnits();
        numbersThatAreSet();
        sources();
        splits();
        mixes();
        exchanges();
        exchangesMove();
        coolers();
    }

    private static void aTrainAndItsControllers() {
        Sentences.test("What it is: A train of heat exchangers and its controllers: units in a graph that carry flows"
                + " and heat, exchangers by how much they can transfer, loops with ratio, cascade, feedforward and"
                + " override with external reset, disturbances that are scripted, trends that are kept, alarms in their"
                + " order, and relative gains that choose the pairing.");
        HeatTrain x = new HeatTrain();
        x.source(100, 200);
        x.source(50, 20);
        x.unit(EXCHANGE, 0, 2, 50);
        x.unit(COOLER, 4, 0, 100);
        x.control(5, 900, 10, 40, 101);
        x.control(5, 0, 40, 50, 2);
        x.feed(1, 2, 10);
        x.ratio(2, 80, 2);
        x.disturb(2, 1, 80);
        x.aim(1, 0, 300);
        x.tick(1);
        Check.due("the ratio of the tick 1, without a flow yet", 0, x.ofController(2, 2));
        Check.due("the controller 1: 50, 40 times 49 divided by 1000, and the feed of -20", 31, x.ofController(1, 2));
        Check.due("its sum, by the reset", -30000, x.ofController(1, 1));
        Check.due("the number of the EXCHANGE, the least output", 0, x.ofUnit(2, 0));
        x.tick(1);
        Check.due("the flow by the disturbance", 80, x.of(2, 0));
        Check.due("the controller 0: 40, and 10 times 900 and 700 divided by 1000", 56, x.ofController(0, 2));
        Check.due("the goal by the cascade", 56, x.ofController(1, 0));
        Check.due("the ratio of the tick 2", 40, x.ofController(2, 2));
        Check.due("the number of the EXCHANGE", 15, x.ofUnit(2, 0));
        Check.due("15 times 80 times 1800 divided by 950", 2273, x.ofUnit(2, 1));
        Trains.due("the tick 2", x, 6, 100, 20000 - 2273 - 100);
        x.tick(1);
        Check.due("the trend of the tick 1", 200, x.trend(5, 1));
        Check.due("the trend of the tick 2", 484, x.trend(5, 2));
        Check.due("the balance", 0, x.balance());
        Check.due("alarms, of 900 in the tick 1 and of -424 in the tick 3", 2, x.alarms());
        Check.due("the alarm of 400 more", 0, x.quit());
        Check.due("the alarm of 124 more", 1, x.quit());
        x.set(1, 50);
        x.set(2, 15);
        Check.due("the gain of the flow on 5, from 3076 of 50 to 3106 of 51", -6, x.gain(1, 5));
        Check.due("that on 6, from 17824 of 100 to 17814 of 100", -1, x.gain(1, 6));
        Check.due("the gain of the EXCHANGE on 5, to 3181 of 50", 21, x.gain(2, 5));
        Check.due("that on 6, to 17719 of 100", -11, x.gain(2, 6));
        Check.due("6600 divided by 87, 50 or more: the flow is paired with 5", 75, x.relative(1, 2, 5, 6));
    }

    private static void fiveHundredTwelveCalls() {
        Sentences.test("What it is: An object is used for at most 512 calls after it has been made;");
        HeatTrain x = new HeatTrain();
        x.source(6, 21);
        x.source(4, 23);
        x.unit(EXCHANGE, 0, 2, 27);
        x.control(0, 0, 0, 5, 0);
        for (int call = 5; call <= 511; call++) {
            if (call % 5 == 0) {
                x.tick(1);
            } else if (call % 5 == 1) {
                Check.refused("the call " + call, Check.INDEX, () -> x.gain(3, 0));
            } else {
                x.relative(2, 1, 4, 5);
            }
        }
        Check.due("the call 512", 102, x.now());
    }

    private static void heatIsNamed() {
        Sentences.test("Terms: Heat that goes in comes out somewhere that can be named.");
        HeatTrain x = Trains.everyKind();
        long in = 0;
        long out = 0;
        for (int t = 1; t <= 60; t++) {
            x.tick(1);
            in += x.of(0, 1) + x.of(8, 1);
            out += x.of(10, 1) + x.of(11, 1) + x.ofUnit(3, 1);
            Check.due("the heat in the loop in the tick " + t, in - out, x.of(6, 1));
            if (t % 20 == 0) {
                x.set(5, t == 20 ? 9999 : 0);
                x.set(2, t == 20 ? 100 : 99);
                x.set(3, t == 20 ? 0 : 99999);
            }
        }
    }

    private static void questionsChangeNothing() {
        Sentences.test("Terms: Questions change nothing.");
        HeatTrain asked = Trains.everything();
        HeatTrain quiet = Trains.everything();
        asked.tick(2);
        quiet.tick(2);
        askAll(asked);
        askAll(asked);
        asked.tick(24);
        quiet.tick(24);
        Check.same("what is answered later", Trains.answers(quiet), Trains.answers(asked));
        Check.same("the alarms", Trains.quits(quiet), Trains.quits(asked));
    }

    private static void askAll(HeatTrain x) {
        Trains.answers(x);
        for (int s = 0; s < 12; s++) {
            x.gain(s / 2, s);
            x.relative(s / 2, 5 - s / 2, s, 11 - s);
            x.trend(s, 1);
        }
    }

    private static void wholeNumbers() {
        Sentences.test("Terms: All numbers are whole;");
        HeatTrain x = new HeatTrain();
        x.source(7, 11);
        x.unit(COOLER, 0, 0, 5);
        x.unit(SPLIT, 2, 0, 50);
        x.tick(1);
        Check.due("the warmth, 720 by 7", 102, x.of(2, 2));
        Check.due("a flow, 350 by 100", 3, x.of(4, 0));
        Check.due("a heat, 216 by 7", 30, x.of(4, 1));
        Check.due("the other heat", 42, x.of(5, 1));
        Check.due("the trend, 420 by 4", 105, x.trend(5, 1));
    }

    /** Each division that can give a number below 0. */
    private static void roundedTowardsZero() {
        Sentences.test("Terms: where something is divided, it is rounded towards 0.");
        HeatTrain x = new HeatTrain();
        x.source(6, 21);
        x.source(4, 23);
        x.unit(EXCHANGE, 0, 2, 27);
        Check.due("a gain", 1, x.gain(2, 4));
        Check.due("-100 by 8", -12, x.relative(2, 1, 4, 5));
        x.tick(1);
        Check.due("-2160 by 310", -6, x.ofUnit(2, 1));
        Check.due("1320 by 6", 220, x.of(4, 2));
        x.control(5, 3, -9, 7, 0);
        x.feed(0, 1, 1);
        x.tick(1);
        Check.due("a sum of (3 less 215) times -9", 1908, x.ofController(0, 1));
        Check.due("1 times -200 by 100", 7 + 1 - 2, x.ofController(0, 2));
        x.feed(0, 0, -333);
        x.aim(0, 700, 3000);
        x.tick(1);
        Check.due("-9 times (700 less 215), less", -2457, x.ofController(0, 1));
        Check.due("-2457 by 1000, and -3330 by 100", 7 - 2 - 33, x.ofController(0, 2));
    }

    private static void twelveUnits() {
        Sentences.test("Terms: Units are numbered from 0, at most 12;");
        HeatTrain x = new HeatTrain();
        Check.refused("no unit yet", Check.INDEX, () -> x.ofUnit(0, 0));
        for (int u = 0; u < 12; u++) {
            Check.due("unit", u, u % 2 == 0 ? x.source(u, u) : x.unit(COOLER, 2 * u, 0, u));
            Check.due("its number", u, x.ofUnit(u, 0));
        }
        Check.refused("a thirteenth source", Check.STATE, () -> x.source(1, 1));
        Check.refused("a thirteenth other one", Check.STATE, () -> x.unit(COOLER, 0, 0, 1));
        Check.refused("no unit 12", Check.INDEX, () -> x.ofUnit(12, 0));
        x.tick(1);
        Check.due("the heat of the source 10", 100, x.of(20, 1));
    }

    private static void twoStreamsOfEach() {
        Sentences.test("Terms: the unit u gives the streams 2 u and 2 u + 1.");
        HeatTrain x = new HeatTrain();
        for (int u = 0; u < 11; u++) {
            x.source(u + 1, 1);
        }
        x.unit(SPLIT, 20, 0, 60);
        x.tick(1);
        for (int u = 0; u < 11; u++) {
            Check.due("the first stream of " + u, u + 1, x.of(2 * u, 0));
            Check.due("the second stream of " + u, 0, x.of(2 * u + 1, 0));
        }
        Check.due("the first stream of the last unit", 6, x.of(22, 0));
        Check.due("the second stream of the last unit", 5, x.of(23, 0));
        Check.refused("no stream 24", Check.INDEX, () -> x.of(24, 0));
    }

    private static void atFirstAndAtLeastZero() {
        Sentences.test("Terms: A stream has a flow and a heat, both 0 at first, at least 0;");
        HeatTrain x = Trains.everyKind();
        for (int s = 0; s < 12; s++) {
            Check.due("the flow of " + s + " at first", 0, x.of(s, 0));
            Check.due("the heat of " + s + " at first", 0, x.of(s, 1));
        }
        x.set(3, 99999);
        x.set(5, 9999);
        for (int t = 1; t <= 8; t++) {
            x.set(2, t % 2 == 0 ? 100 : 0);
            x.set(0, t % 3 == 0 ? 999 : 1);
            x.set(4, t % 4 == 0 ? 0 : 999);
            x.tick(1);
            for (int s = 0; s < 12; s++) {
                Check.due("the flow of " + s + " at least", true, x.of(s, 0) >= 0);
                Check.due("the heat of " + s + " at least", true, x.of(s, 1) >= 0);
            }
        }
        HeatTrain y = new HeatTrain();
        y.source(1, 300);
        y.source(1, 0);
        y.unit(EXCHANGE, 0, 2, 9999);
        y.source(1, 0);
        y.source(1, 300);
        y.unit(EXCHANGE, 6, 8, 9999);
        y.tick(1);
        Check.due("29997000 by 100000", 299, y.ofUnit(2, 1));
        Check.due("what is left of the hot one", 1, y.of(4, 1));
        Check.due("what is left of the cold one", 1, y.of(11, 1));
    }

    private static void warmth() {
        Sentences.test("Terms: its warmth is 10 times its heat, divided by its flow, in tenths;");
        HeatTrain x = new HeatTrain();
        x.source(999, 300);
        x.unit(COOLER, 0, 0, 1);
        x.source(1, 300);
        x.unit(COOLER, 4, 0, 299);
        x.tick(1);
        Check.due("2997000 by 999", 3000, x.of(0, 2));
        Check.due("2996990 by 999", 2999, x.of(2, 2));
        Check.due("10 by 1", 10, x.of(6, 2));
        HeatTrain y = Trains.gathering();
        Trains.tickTo(y, 300);
        Check.due("the most flow", 1798200, y.of(22, 0));
        Check.due("the most heat", 539460000, y.of(22, 1));
        Check.due("5394600000 by 1798200", 3000, y.of(22, 2));
        Check.due("in the trend too", 3000, y.trend(22, 300));
    }

    private static void withoutAFlow() {
        Sentences.test("Terms: 0 without a flow.");
        HeatTrain x = new HeatTrain();
        x.source(0, 300);
        x.source(5, 300);
        x.unit(SPLIT, 2, 0, 0);
        Check.due("ahead of a tick", 0, x.of(0, 2));
        x.control(0, 40, 1, 0, 0);
        x.tick(2);
        Check.due("of a source of 0", 0, x.of(0, 2));
        Check.due("of a second stream", 0, x.of(1, 2));
        Check.due("of a SPLIT of 0", 0, x.of(4, 2));
        Check.due("in the trend", 0, x.trend(4, 2));
        Check.due("as a controller measures it", 40, x.ofController(0, 3));
        Check.due("in a gain", 0, x.gain(1, 4));
        Check.due("of a source that is one more", 3000, x.gain(0, 0));
    }

    private static void lowerAndHigherUnits() {
        Sentences.test("Terms: Each unit takes streams that no other unit takes, told as it is made: of a lower unit"
            + " as they are in this tick, of itself or a higher one as they were in the tick ahead.");
        HeatTrain x = new HeatTrain();
        x.unit(COOLER, 1, 0, 1);
        x.source(10, 10);
        x.unit(COOLER, 2, 0, 1);
        x.unit(SPLIT, 4, 0, 50);
        x.unit(MIX, 6, 8, 0);
        x.back(0, 7);
        Check.refused("one that another takes", Check.STATE, () -> x.unit(COOLER, 2, 0, 1));
        x.tick(1);
        Check.due("a lower one's: in this tick", 49, x.of(6, 1));
        Check.due("its own one: not yet", 5, x.of(8, 0));
        Check.due("a higher one's: not yet", 0, x.of(0, 1));
        x.set(1, 20);
        x.tick(1);
        Check.due("a lower one's in this tick", 99, x.of(6, 1));
        Check.due("its own one, as it was", 5 + 10, x.of(8, 0));
        Check.due("its own one's heat", 49 + 99, x.of(8, 1));
        Check.due("a higher one's, as it was", 50 - 1, x.of(0, 1));
        HeatTrain y = new HeatTrain();
        Check.due("one that takes both of its own", 0, y.unit(EXCHANGE, 0, 1, 5));
        y.source(10, 10);
        y.back(0, 2);
        y.tick(1);
        Trains.due("nothing yet", y, 0, 0, 0);
        Trains.due("nothing yet", y, 1, 0, 0);
        y.tick(3);
        Check.due("the source's, as it was", 10, y.of(0, 0));
        Trains.due("its own second one stays empty", y, 1, 0, 0);
    }

    private static void numbersThatAreSet() {
        Sentences.test("Terms: Each unit has a number by which it can be set:");
        HeatTrain x = Trains.everyKind();
        int[] most = {999, -1, 100, 99999, 999, 9999};
        for (int u = 0; u < 6; u++) {
            int unit = u;
            if (most[u] > 0) {
                x.set(u, most[u]);
                Check.due("the most of " + u, most[u], x.ofUnit(u, 0));
                x.set(u, 0);
                Check.due("the least of " + u, 0, x.ofUnit(u, 0));
            } else {
                Check.refused("not so a MIX", Check.ARGUMENT, () -> x.set(unit, 0));
            }
        }
    }

    private static void sources() {
        Sentences.test("Terms: SOURCE: gives the first stream with a flow, which is its number, 0 to 999, and a"
            + " warmth in whole degrees, 0 to 300: the heat is both, multiplied.");
        HeatTrain x = new HeatTrain();
        int[] flows = {0, 0, 1, 1, 999, 999};
        int[] degrees = {0, 300, 0, 1, 1, 300};
        for (int u = 0; u < 6; u++) {
            x.source(flows[u], degrees[u]);
        }
        Check.refusedOutside("a flow", Check.ARGUMENT, 0, 999, v -> x.source(v, 0));
        Check.refusedOutside("a warmth", Check.ARGUMENT, 0, 300, v -> x.source(0, v));
        x.tick(1);
        for (int u = 0; u < 6; u++) {
            Check.due("the flow of " + u, flows[u], x.of(2 * u, 0));
            Check.due("the heat of " + u, flows[u] * degrees[u], x.of(2 * u, 1));
            Check.due("the warmth of " + u, flows[u] == 0 ? 0 : 10 * degrees[u], x.of(2 * u, 2));
            Trains.due("its second stream", x, 2 * u + 1, 0, 0);
        }
        Check.refusedOutside("a number", Check.ARGUMENT, 0, 999, v -> x.set(0, v));
        x.set(1, 999);
        x.tick(1);
        Check.due("the heat with another number", 299700, x.of(2, 1));
    }

    private static void splits() {
        Sentences.test("Terms: SPLIT: takes one;");
        HeatTrain x = new HeatTrain();
        x.source(7, 11);
        x.source(9, 11);
        x.unit(SPLIT, 0, 2, 50);
        Check.due("what is told as its second one is free", 3, x.unit(COOLER, 2, 0, 0));
        Check.refused("what is told as its first one is not", Check.STATE, () -> x.unit(COOLER, 0, 0, 0));
        x.tick(1);
        Check.due("the flow of both", 7, x.of(4, 0) + x.of(5, 0));
        firstOfASplit();
        restOfASplit();
    }

    private static void firstOfASplit() {
        Sentences.test("Terms: its number is 0 to 100 hundredths: the first stream has so many of the flow, and the"
            + " heat times the flow of the first stream divided by the flow taken, 0 without one;");
        HeatTrain x = new HeatTrain();
        x.source(7, 11);
        x.unit(COOLER, 0, 0, 5);
        x.unit(SPLIT, 2, 0, 100);
        Check.refusedOutside("hundredths", Check.ARGUMENT, 0, 100, v -> x.set(2, v));
        x.tick(1);
        Check.due("all of the flow", 7, x.of(4, 0));
        Check.due("all of the heat", 72, x.of(4, 1));
        int[] hundredths = {0, 1, 14, 15, 99};
        int[] flows = {0, 0, 0, 1, 6};
        int[] heats = {0, 0, 0, 10, 61};
        for (int i = 0; i < 5; i++) {
            x.set(2, hundredths[i]);
            x.tick(1);
            Check.due("the flow of " + hundredths[i], flows[i], x.of(4, 0));
            Check.due("the heat of " + hundredths[i], heats[i], x.of(4, 1));
        }
        x.set(0, 0);
        x.tick(1);
        Trains.due("without a flow", x, 4, 0, 0);
        Trains.due("without a flow", x, 5, 0, 0);
        wideSplit();
    }

    /** In a loop that gathers, heat times flow is far more than an int holds. */
    private static void wideSplit() {
        HeatTrain x = new HeatTrain();
        x.source(999, 300);
        x.unit(MIX, 3, 0, 0);
        x.unit(SPLIT, 2, 0, 100);
        x.back(1, 4);
        Trains.tickTo(x, 299);
        Check.due("what is gathered", 299 * 299700, x.of(4, 1));
        x.set(2, 50);
        x.tick(1);
        Check.due("half of the flow", 149850, x.of(4, 0));
        Check.due("half of the heat", 44955000, x.of(4, 1));
        Check.due("the other half", 44955000, x.of(5, 1));
    }

    private static void restOfASplit() {
        Sentences.test("Terms: the second stream the rest of both.");
        HeatTrain x = new HeatTrain();
        x.source(7, 11);
        x.unit(COOLER, 0, 0, 5);
        x.unit(SPLIT, 2, 0, 100);
        int[] hundredths = {0, 1, 15, 99, 100};
        int[] flows = {7, 7, 6, 1, 0};
        int[] heats = {72, 72, 62, 11, 0};
        for (int i = 0; i < 5; i++) {
            x.set(2, hundredths[i]);
            x.tick(1);
            Check.due("the flow left of " + hundredths[i], flows[i], x.of(5, 0));
            Check.due("the heat left of " + hundredths[i], heats[i], x.of(5, 1));
        }
    }

    private static void mixes() {
        Sentences.test("Terms: MIX: takes two, and gives them together as the first stream;");
        HeatTrain x = new HeatTrain();
        x.source(10, 20);
        x.source(5, 50);
        x.unit(MIX, 0, 2, 0);
        Check.refused("the first one is taken", Check.STATE, () -> x.unit(COOLER, 0, 0, 0));
        Check.refused("the second one is taken", Check.STATE, () -> x.unit(COOLER, 2, 0, 0));
        x.tick(1);
        Check.due("the flow", 15, x.of(4, 0));
        Check.due("the heat", 450, x.of(4, 1));
        Trains.due("the second stream", x, 5, 0, 0);
        x.set(0, 0);
        x.tick(1);
        Check.due("with a first one without a flow", 250, x.of(4, 1));
        x.set(1, 0);
        x.tick(1);
        Trains.due("of two without a flow", x, 4, 0, 0);
        numberOfAMix();
    }

    private static void numberOfAMix() {
        Sentences.test("Terms: its number does not matter.");
        int[] numbers = {Integer.MIN_VALUE, -1, 0, 100000, Integer.MAX_VALUE};
        for (int number : numbers) {
            HeatTrain x = new HeatTrain();
            x.source(10, 20);
            x.source(5, 50);
            Check.due("a MIX of " + number, 2, x.unit(MIX, 0, 2, number));
            x.tick(1);
            Check.due("the flow of a MIX of " + number, 15, x.of(4, 0));
            Check.due("the heat of a MIX of " + number, 450, x.of(4, 1));
            Check.due("the gain of a MIX of " + number, 0, x.gain(2, 4));
        }
    }

    private static void exchanges() {
        Sentences.test("Terms: EXCHANGE: takes a hot and a cold one;");
        HeatTrain x = new HeatTrain();
        x.source(100, 200);
        x.source(50, 20);
        x.unit(EXCHANGE, 0, 2, 100);
        Check.refused("the hot one is taken", Check.STATE, () -> x.unit(COOLER, 0, 0, 0));
        Check.refused("the cold one is taken", Check.STATE, () -> x.unit(COOLER, 2, 0, 0));
        x.tick(1);
        Check.due("the hot one gives", 20000 - 6000, x.of(4, 1));
        Check.due("the cold one takes", 1000 + 6000, x.of(5, 1));

        Sentences.test("Terms: nothing if n and c are both 0.");
        x.set(2, 0);
        x.set(1, 0);
        x.tick(1);
        Check.due("what is moved", 0, x.ofUnit(2, 1));
        Check.due("the hot one", 20000, x.of(4, 1));
        x.set(0, 0);
        x.set(1, 50);
        x.tick(1);
        Check.due("what is moved without a hot flow", 0, x.ofUnit(2, 1));
        Trains.due("the cold one", x, 5, 50, 1000);
        x.set(1, 0);
        x.tick(1);
        Check.due("what is moved without any flow", 0, x.ofUnit(2, 1));
        Check.due("as a gain", 0, x.gain(2, 4));

        Sentences.test("Terms: The first stream is the hot one then, the second one the cold one.");
        x.set(0, 3);
        x.set(1, 40);
        x.set(2, 9999);
        x.tick(1);
        Check.due("the flow of the hot one", 3, x.of(4, 0));
        Check.due("the flow of the cold one", 40, x.of(5, 0));
    }

    private static void exchangesMove() {
        Sentences.test("Terms: with its number, 0 to 9999, how much it can transfer, n, and c the lesser flow of"
            + " both, it moves n times c times (the warmth of the hot one less that of the cold one), divided by (10"
            + " times (n and c)), from the hot one to the cold one (the other way, if that is below 0), but at most"
            + " all heat that there is where it comes from;");
        HeatTrain x = new HeatTrain();
        x.source(999, 300);
        x.source(999, 0);
        x.unit(EXCHANGE, 0, 2, 9999);
        Check.refusedOutside("a number", Check.ARGUMENT, 0, 9999, v -> x.set(2, v));
        moved("29967003000 by 109980", 272476, x);
        x.set(2, 0);
        moved("with n of 0", 0, x);
        x.set(2, 1);
        moved("2997000 by 10000", 299, x);
        x.set(0, 1);
        x.set(2, 9999);
        moved("the lesser flow is the hot one's: 29997000 by 100000", 299, x);
        Check.due("the hot one keeps what is not moved", 1, x.of(4, 1));
        x.set(0, 999);
        x.set(1, 1);
        moved("the lesser flow is the cold one's", 299, x);
        Check.due("the cold one has it", 299, x.of(5, 1));
        x.set(1, 0);
        moved("with c of 0", 0, x);
        HeatTrain y = new HeatTrain();
        y.source(999, 0);
        y.source(1, 300);
        y.unit(EXCHANGE, 0, 2, 9999);
        moved("the other way", -299, y);
        Check.due("what was hot keeps at least 0", 1, y.of(5, 1));
        Check.due("what was cold has it", 299, y.of(4, 1));
        y.set(1, 999);
        moved("the other way, the most", -272476, y);
        y.set(2, 0);
        moved("the other way, nothing", 0, y);
    }

    private static void moved(String call, int want, HeatTrain x) {
        x.tick(1);
        Check.due(call, want, x.ofUnit(2, 1));
        Check.due(call + ": the heat of both stays", x.of(0, 1) + x.of(2, 1), x.of(4, 1) + x.of(5, 1));
    }

    private static void coolers() {
        Sentences.test("Terms: COOLER: takes one, and gives it with as much less heat as its number, 0 to 99999, but"
            + " at least 0;");
        HeatTrain x = new HeatTrain();
        x.source(999, 300);
        x.source(10, 10);
        x.unit(COOLER, 0, 2, 99999);
        Check.due("what is told as its second one is free", 3, x.unit(COOLER, 2, 0, 0));
        Check.refusedOutside("a number", Check.ARGUMENT, 0, 99999, v -> x.set(2, v));
        int[] numbers = {0, 99, 100, 101, 99999};
        int[] left = {100, 1, 0, 0, 0};
        for (int i = 0; i < 5; i++) {
            x.set(3, numbers[i]);
            x.tick(1);
            Check.due("the flow with " + numbers[i], 10, x.of(6, 0));
            Check.due("the heat with " + numbers[i], left[i], x.of(6, 1));
        }
        Check.due("the heat less the most", 299700 - 99999, x.of(4, 1));
        Trains.due("the second stream", x, 5, 0, 0);

        Sentences.test("Terms: what it takes away is named.");
        Check.due("the most", 99999, x.ofUnit(2, 1));
        for (int i = 0; i < 5; i++) {
            x.set(3, numbers[i]);
            x.tick(1);
            Check.due("what is taken with " + numbers[i], 100 - left[i], x.ofUnit(3, 1));
        }
        x.set(1, 0);
        x.tick(1);
        Check.due("what is taken without a flow", 0, x.ofUnit(3, 1));
    }
}
