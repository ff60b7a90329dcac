/** The sentences of the promises 14 to 22: of, ofUnit, ofController, trend, balance, alarms, gain, relative, now. */
final class QuestionSentences {
    private static final int SPLIT = HeatTrain.SPLIT, MIX = HeatTrain.MIX;
    private static final int EXCHANGE = HeatTrain.EXCHANGE, COOLER = HeatTrain.COOLER;

    private QuestionSentences() {
    }

    static void run() {
        ofCall();
        ofRefused();
        ofUnitCall();
        ofUnitRefused();
        ofControllerCall();
        ofControllerRefused();
        trendCall();
        trendRefused();
        balanceCall();
        alarmsCall();
        gainCall();
        relativeCall();
        relativeRefused();
        nowCall();
    }

    /** 70 of 33 degrees go through a cooler of 777 and a split of 30 hundredths. */
    private static HeatTrain plant() {
        HeatTrain x = new HeatTrain();
        x.source(70, 33);
        x.unit(COOLER, 0, 0, 777);
        x.unit(SPLIT, 2, 0, 30);
        return x;
    }

    private static void ofCall() {
        Sentences.test("Promise 14: Tells something of a stream.");
        HeatTrain x = plant();
        Trains.due("ahead of a tick", x, 2, 0, 0);
        Check.due("ahead of a tick, its warmth", 0, x.of(2, 2));
        x.tick(1);
        Check.due("in a tick", 1533, x.of(2, 1));
        x.set(1, 0);
        Check.due("until the next tick", 1533, x.of(2, 1));
        x.tick(1);
        Check.due("in the next tick", 2310, x.of(2, 1));

        Sentences.test("Promise 14: `stream`: its number");
        Check.due("the least", 70, x.of(0, 0));
        Check.due("the greatest", 49, x.of(5, 0));
        Check.due("one between", 21, x.of(4, 0));

        Sentences.test("Promise 14: `what`: 0 its flow, 1 its heat, 2 its warmth");
        HeatTrain y = plant();
        y.tick(1);
        Check.due("0", 21, y.of(4, 0));
        Check.due("1", 459, y.of(4, 1));
        Check.due("2", 218, y.of(4, 2));

        Sentences.test("Promise 14: Returns the number.");
        HeatTrain z = Trains.gathering();
        Trains.tickTo(z, 300);
        Check.due("the greatest flow", 1798200, z.of(22, 0));
        Check.due("the greatest heat", 539460000, z.of(22, 1));
        Check.due("the greatest warmth", 3000, z.of(22, 2));
        Check.due("0", 0, z.of(23, 0));
    }

    private static void ofRefused() {
        Sentences.test("Promise 14: Throws `IndexOutOfBoundsException` if there is no such stream");
        HeatTrain x = plant();
        HeatTrain empty = new HeatTrain();
        Check.refused("without units", Check.INDEX, () -> empty.of(0, 0));
        for (int what = 0; what < 3; what++) {
            int asked = what;
            Check.refusedOutside("the stream", Check.INDEX, 0, 5, v -> x.of(v, asked));
        }
        Check.refused("the stream 24", Check.INDEX, () -> x.of(24, 0));
        Check.refused("the stream 6 and what", Check.INDEX, () -> x.of(6, 3));

        Sentences.test("Promise 14: Throws `IllegalArgumentException` if what is out of range");
        for (int s = 0; s < 6; s++) {
            int stream = s;
            Check.refusedOutside("what", Check.ARGUMENT, 0, 2, v -> x.of(stream, v));
        }
    }

    private static void ofUnitCall() {
        Sentences.test("Promise 15: Tells the number of a unit, or what it did in the last tick.");
        HeatTrain x = plant();
        Check.due("what it did ahead of a tick", 0, x.ofUnit(1, 1));
        x.tick(1);
        Check.due("what it did", 777, x.ofUnit(1, 1));
        x.set(1, 5);
        Check.due("the number that is set", 5, x.ofUnit(1, 0));
        Check.due("what it did with the other one", 777, x.ofUnit(1, 1));
        x.tick(1);
        Check.due("what it did then", 5, x.ofUnit(1, 1));
        x.gain(1, 2);
        Check.due("what a gain does is not told", 5, x.ofUnit(1, 1));

        Sentences.test("Promise 15: `unit`: its number");
        Check.due("the least", 70, x.ofUnit(0, 0));
        Check.due("the greatest", 30, x.ofUnit(2, 0));

        Sentences.test("Promise 15: `what`: 0 its number, 1 what an EXCHANGE moved to the cold one, or a COOLER took"
            + " away;");
        HeatTrain y = new HeatTrain();
        y.source(100, 200);
        y.source(50, 20);
        y.unit(EXCHANGE, 0, 2, 100);
        y.unit(COOLER, 4, 0, 99999);
        y.tick(1);
        Check.due("the number of an EXCHANGE", 100, y.ofUnit(2, 0));
        Check.due("what it moved", 6000, y.ofUnit(2, 1));
        Check.due("the number of a COOLER", 99999, y.ofUnit(3, 0));
        Check.due("all that there was", 14000, y.ofUnit(3, 1));
        HeatTrain z = new HeatTrain();
        z.source(50, 20);
        z.source(100, 200);
        z.unit(EXCHANGE, 0, 2, 100);
        z.tick(1);
        Check.due("what it moved the other way", -6000, z.ofUnit(2, 1));

        Sentences.test("Promise 15: 0 for others");
        HeatTrain w = plant();
        w.unit(MIX, 4, 5, 9);
        w.tick(1);
        Check.due("a SOURCE", 0, w.ofUnit(0, 1));
        Check.due("a SPLIT", 0, w.ofUnit(2, 1));
        Check.due("a MIX", 0, w.ofUnit(3, 1));

        Sentences.test("Promise 15: Returns the number.");
        Check.due("of a SOURCE", 70, w.ofUnit(0, 0));
        Check.due("of a COOLER", 777, w.ofUnit(1, 0));
        Check.due("of a SPLIT", 30, w.ofUnit(2, 0));
        Check.due("of a MIX", 9, w.ofUnit(3, 0));
    }

    private static void ofUnitRefused() {
        Sentences.test("Promise 15: Throws `IndexOutOfBoundsException` if there is no such unit");
        HeatTrain x = plant();
        HeatTrain empty = new HeatTrain();
        Check.refused("without units", Check.INDEX, () -> empty.ofUnit(0, 0));
        Check.refusedOutside("the unit", Check.INDEX, 0, 2, v -> x.ofUnit(v, 0));
        Check.refusedOutside("what the unit did", Check.INDEX, 0, 2, v -> x.ofUnit(v, 1));
        Check.refused("the unit 12", Check.INDEX, () -> x.ofUnit(12, 0));
        Check.refused("the unit 3 and what", Check.INDEX, () -> x.ofUnit(3, 2));

        Sentences.test("Promise 15: Throws `IllegalArgumentException` if what is out of range");
        for (int u = 0; u < 3; u++) {
            int unit = u;
            Check.refusedOutside("what", Check.ARGUMENT, 0, 1, v -> x.ofUnit(unit, v));
        }
    }

    private static void ofControllerCall() {
        Sentences.test("Promise 16: Tells something of a controller.");
        HeatTrain x = plant();
        x.control(5, 400, 7, 100, 1);
        x.ratio(0, 50, 2);
        x.control(1, 400, 7, 100, 1);
        x.tick(1);
        x.aim(0, 300, 500);
        Check.due("the goal at once", 300, x.ofController(0, 0));
        Check.due("the error of the last tick", 400, x.ofController(0, 3));

        Sentences.test("Promise 16: `controller`: its number");
        Check.due("the least", 300, x.ofController(0, 0));
        Check.due("the greatest", 400, x.ofController(2, 0));

        Sentences.test("Promise 16: `what`: 0 its goal, 1 its sum, 2 its own output in the last tick, whether that"
            + " was taken or not, 3 its error then;");
        x.tick(1);
        Check.due("0", 300, x.ofController(0, 0));
        Check.due("1, 7 times 400, and 7 times (300 less 315)", 2695, x.ofController(0, 1));
        Check.due("2, that is taken", 102, x.ofController(0, 2));
        Check.due("3", -15, x.ofController(0, 3));
        Check.due("1, by what is taken", 2000, x.ofController(2, 1));
        Check.due("2, that is not taken", 105, x.ofController(2, 2));
        Check.due("3, of the other one", 400, x.ofController(2, 3));

        Sentences.test("Promise 16: 0 for 0, 1 and 3 of a ratio station");
        Check.due("0", 0, x.ofController(1, 0));
        Check.due("1", 0, x.ofController(1, 1));
        Check.due("2", 35, x.ofController(1, 2));
        Check.due("3", 0, x.ofController(1, 3));

        Sentences.test("Promise 16: Returns the number.");
        HeatTrain y = plant();
        y.control(1, 3000, -99, 0, 1);
        y.feed(0, 0, -500);
        for (int what = 1; what <= 3; what++) {
            Check.due(what + " ahead of a tick", 0, y.ofController(0, what));
        }
        y.tick(50);
        Check.due("the least sum", -10000000, y.ofController(0, 1));
        Check.due("an output below 0", -10000 - 650, y.ofController(0, 2));
    }

    private static void ofControllerRefused() {
        Sentences.test("Promise 16: Throws `IndexOutOfBoundsException` if there is no such controller");
        HeatTrain x = plant();
        Check.refused("without controllers", Check.INDEX, () -> x.ofController(0, 0));
        x.control(5, 400, 7, 100, 1);
        x.ratio(0, 50, 2);
        for (int what = 0; what < 4; what++) {
            int asked = what;
            Check.refusedOutside("the controller", Check.INDEX, 0, 1, v -> x.ofController(v, asked));
        }
        Check.refused("the controller 2 and what", Check.INDEX, () -> x.ofController(2, 4));

        Sentences.test("Promise 16: Throws `IllegalArgumentException` if what is out of range");
        Check.refusedOutside("what", Check.ARGUMENT, 0, 3, v -> x.ofController(0, v));
        Check.refusedOutside("what of a station", Check.ARGUMENT, 0, 3, v -> x.ofController(1, v));
    }

    private static void trendCall() {
        Sentences.test("Promise 17: Returns the warmth of a stream in a tick, as the trends keep it.");
        HeatTrain x = plant();
        for (int t = 1; t <= 20; t++) {
            x.set(1, 70 * t);
            x.tick(1);
            Check.due("in the tick " + t, 330 - 10 * t, x.trend(2, t));
        }
        for (int t = 1; t <= 20; t++) {
            Check.due("in the tick " + t + " later", 330 - 10 * t, x.trend(2, t));
        }

        Sentences.test("Promise 17: `stream`: its number");
        Check.due("the least", 330, x.trend(0, 20));
        Check.due("the greatest", 130, x.trend(5, 20));
        Check.due("one without a flow", 0, x.trend(1, 20));

        Sentences.test("Promise 17: `tick`: 1 to now");
        Check.due("1", 320, x.trend(2, 1));
        Check.due("1 of the least stream", 330, x.trend(0, 1));
        Check.due("now", 130, x.trend(2, 20));
        Check.refusedOutside("the tick", Check.INDEX, 1, 20, v -> x.trend(2, v));
        x.tick(1);
        Check.due("the next one", 130, x.trend(2, 21));

        Sentences.test("Promise 17: Returns the tenths.");
        HeatTrain y = new HeatTrain();
        y.source(7, 300);
        y.unit(COOLER, 0, 0, 1);
        Trains.tickTo(y, 300);
        Check.due("3000", 3000, y.trend(0, 300));
        Check.due("20990 by 7", 2998, y.trend(2, 300));
        Check.due("the first one still", 2998, y.trend(2, 1));
    }

    private static void trendRefused() {
        Sentences.test("Promise 17: Throws `IndexOutOfBoundsException` if there is no such stream or tick");
        HeatTrain x = plant();
        int[] ticks = {Integer.MIN_VALUE, -1, 0, 1, 300, Integer.MAX_VALUE};
        for (int tick : ticks) {
            Check.refused("ahead of a tick, the tick " + tick, Check.INDEX, () -> x.trend(0, tick));
        }
        x.tick(1);
        Check.refusedOutside("the stream", Check.INDEX, 0, 5, v -> x.trend(v, 1));
        Check.refusedOutside("the tick", Check.INDEX, 1, 1, v -> x.trend(0, v));
        Check.refused("the tick 0 of no stream", Check.INDEX, () -> x.trend(6, 0));
        Trains.tickTo(x, 300);
        Check.refusedOutside("the tick at last", Check.INDEX, 1, 300, v -> x.trend(0, v));
        Check.refused("the stream 24 at last", Check.INDEX, () -> x.trend(24, 300));
        HeatTrain empty = new HeatTrain();
        empty.tick(1);
        Check.refused("without units", Check.INDEX, () -> empty.trend(0, 1));
    }

    private static void balanceCall() {
        Sentences.test("Promise 18: Returns how much heat was made by all sources in the last tick, less what is in"
            + " streams that no unit takes, and what coolers took away, and less by how much heat there is more now"
            + " than in the tick ahead in streams that are taken in the next tick only.");
        HeatTrain x = Trains.everyKind();
        int ahead = 0;
        for (int t = 1; t <= 12; t++) {
            x.tick(1);
            int made = x.of(0, 1) + x.of(8, 1);
            int untaken = x.of(1, 1) + x.of(3, 1) + x.of(7, 1) + x.of(9, 1) + x.of(10, 1) + x.of(11, 1);
            int more = x.of(6, 1) - ahead;
            ahead = x.of(6, 1);
            Check.due("in the tick " + t, made - untaken - x.ofUnit(3, 1) - more, x.balance());
            x.set(4, t % 3 == 0 ? 0 : 999);
        }

        Sentences.test("Promise 18: It is 0.");
        HeatTrain y = Trains.everything();
        Check.due("ahead of a tick", 0, y.balance());
        for (int t = 1; t <= 60; t++) {
            y.tick(t % 7 == 0 ? 3 : 1);
            Check.due("in the tick " + t, 0, y.balance());
            y.set(0, t % 2 == 0 ? 999 : 0);
            y.set(3, t % 4 == 0 ? 0 : 99999);
            y.gain(0, 4);
            Check.due("after calls in the tick " + t, 0, y.balance());
        }

        Sentences.test("Promise 18: Returns the balance.");
        Check.due("without units", 0, new HeatTrain().balance());
        balanceOfTheUnitZero();
        HeatTrain z = Trains.gathering();
        for (int t = 50; t <= 300; t += 50) {
            z.tick(50);
            Check.due("of much heat in the tick " + t, 0, z.balance());
        }
    }

    private static void balanceOfTheUnitZero() {
        HeatTrain untaken = new HeatTrain();
        untaken.source(10, 10);
        untaken.tick(2);
        Check.due("with a SOURCE that nothing takes", 0, untaken.balance());
        HeatTrain cooled = new HeatTrain();
        cooled.unit(COOLER, 0, 0, 30);
        cooled.source(10, 10);
        cooled.back(0, 2);
        HeatTrain gathered = new HeatTrain();
        gathered.unit(MIX, 1, 0, 0);
        gathered.source(10, 10);
        gathered.back(0, 2);
        for (int t = 1; t <= 4; t++) {
            cooled.tick(1);
            gathered.tick(1);
            Check.due("with a COOLER that takes of a higher unit, in the tick " + t, 0, cooled.balance());
            Check.due("with a MIX that takes its own stream, in the tick " + t, 0, gathered.balance());
        }
        Check.due("what the COOLER took away", 30, cooled.ofUnit(0, 1));
        Check.due("what is gathered", 300, gathered.of(0, 1));
    }

    private static void alarmsCall() {
        Sentences.test("Promise 19: Returns how many alarms there are.");
        HeatTrain x = plant();
        Check.due("none", 0, x.alarms());
        x.quit();
        Check.due("none after quit without one", 0, x.alarms());
        x.control(1, 600, 0, 0, 1);
        x.control(1, 600, 0, 0, 1);
        Check.due("none until a tick", 0, x.alarms());
        x.tick(1);
        Check.due("two", 2, x.alarms());
        x.aim(0, 0, 0);
        x.tick(1);
        Check.due("two, though one is over", 2, x.alarms());
        x.quit();
        Check.due("one", 1, x.alarms());
        x.quit();
        x.quit();
        Check.due("none again", 0, x.alarms());
    }

    private static void gainCall() {
        Sentences.test("Promise 20: Returns the gain of a unit on a stream.");
        HeatTrain x = new HeatTrain();
        x.source(10, 100);
        x.unit(COOLER, 0, 0, 100);
        Check.due("9900 by 11, less 900, ahead of a tick", 9, x.gain(0, 2));
        x.tick(1);
        Check.due("in a tick", 9, x.gain(0, 2));

        Sentences.test("Promise 20: `unit`: its number");
        Check.due("the least", 9, x.gain(0, 2));
        Check.due("the greatest", -1, x.gain(1, 2));

        Sentences.test("Promise 20: `stream`: a stream");
        Check.due("the least", 0, x.gain(0, 0));
        Check.due("the greatest", 0, x.gain(0, 3));
        Check.due("one between", 9, x.gain(0, 2));

        Sentences.test("Promise 20: Returns the tenths.");
        x.set(0, 0);
        Check.due("of nothing, and what a cooler takes all of", 0, x.gain(0, 2));
        x.set(1, 0);
        Check.due("from nothing to 100 degrees", 1000, x.gain(0, 2));
        x.set(0, 1);
        Check.due("from 100 to 99 degrees", -10, x.gain(1, 2));
        x.set(1, 100);
        Check.due("from nothing to 50 degrees", 500, x.gain(0, 2));

        Sentences.test("Promise 20: Throws `IndexOutOfBoundsException` if there is no such unit or stream");
        Check.refusedOutside("the unit", Check.INDEX, 0, 1, v -> x.gain(v, 0));
        Check.refusedOutside("the stream", Check.INDEX, 0, 3, v -> x.gain(0, v));
        Check.refused("both", Check.INDEX, () -> x.gain(2, 4));
        HeatTrain empty = new HeatTrain();
        Check.refused("without units", Check.INDEX, () -> empty.gain(0, 0));
    }

    /** The gains of the EXCHANGE 2 are 1 and -3 on the streams 4 and 5, those of the source 1 are 3 and -1. */
    private static HeatTrain exchanger() {
        HeatTrain x = new HeatTrain();
        x.source(6, 21);
        x.source(4, 23);
        x.unit(EXCHANGE, 0, 2, 27);
        return x;
    }

    private static void relativeCall() {
        Sentences.test("Promise 21: Returns the relative gain of two units and two streams.");
        HeatTrain x = exchanger();
        Check.due("a", 1, x.gain(2, 4));
        Check.due("b", -3, x.gain(2, 5));
        Check.due("c", 3, x.gain(1, 4));
        Check.due("d", -1, x.gain(1, 5));
        Check.due("-100 by (-1 and 9)", -12, x.relative(2, 1, 4, 5));

        Sentences.test("Promise 21: `unit`: the first unit");
        Check.due("the greatest as the first", -12, x.relative(2, 1, 4, 5));
        Check.due("the least as the first, with -2 and 0: 200 by 2", 100, x.relative(0, 1, 4, 5));

        Sentences.test("Promise 21: `other`: the second one");
        Check.due("the greatest as the second: -900 by (-9 and 1)", 112, x.relative(1, 2, 4, 5));
        Check.due("the least as the second, with -2 and 0: 0 by -6", 0, x.relative(2, 0, 4, 5));

        Sentences.test("Promise 21: `stream`: the first stream");
        Check.due("the greatest as the first", 112, x.relative(2, 1, 5, 4));
        Check.due("the least as the first: without gains on it", HeatTrain.NO_GAIN, x.relative(2, 1, 0, 5));

        Sentences.test("Promise 21: `second`: the second one");
        Check.due("the greatest as the second", -12, x.relative(2, 1, 4, 5));
        Check.due("the least as the second: without gains on it", HeatTrain.NO_GAIN, x.relative(2, 1, 4, 0));

        Sentences.test("Promise 21: Returns the hundredths;");
        HeatTrain y = new HeatTrain();
        y.source(0, 300);
        y.source(0, 300);
        Check.due("100", 100, y.relative(0, 1, 0, 2));
        Check.due("0", 0, y.relative(0, 1, 2, 0));
        HeatTrain great = Trains.twoSourcesInto(5, 8, 245, 1, 137, 51);
        Check.due("47278 hundreds by (47278 less 47277)", 4727800, great.relative(0, 1, 10, 11));
        HeatTrain small = Trains.twoSourcesInto(4, 295, 126, 0, 14, 52);
        Check.due("190400 less 190405, as the divisor", -3808000, small.relative(0, 1, 10, 11));

        Sentences.test("Promise 21: NO_GAIN if the divisor is 0.");
        Check.due("one unit twice", HeatTrain.NO_GAIN, x.relative(2, 2, 4, 5));
        Check.due("one stream twice", HeatTrain.NO_GAIN, x.relative(2, 1, 4, 4));
        Check.due("empty streams", HeatTrain.NO_GAIN, x.relative(2, 1, 1, 3));
        HeatTrain z = exchanger();
        z.set(2, 9999);
        Check.due("a unit at the most", HeatTrain.NO_GAIN, z.relative(2, 1, 4, 5));
    }

    private static void relativeRefused() {
        Sentences.test("Promise 21: Throws `IndexOutOfBoundsException` if there is no such unit or stream, of any");
        HeatTrain x = exchanger();
        Check.refusedOutside("the unit", Check.INDEX, 0, 2, v -> x.relative(v, 1, 4, 5));
        Check.refusedOutside("the other unit", Check.INDEX, 0, 2, v -> x.relative(2, v, 4, 5));
        Check.refusedOutside("the stream", Check.INDEX, 0, 5, v -> x.relative(2, 1, v, 5));
        Check.refusedOutside("the second stream", Check.INDEX, 0, 5, v -> x.relative(2, 1, 4, v));
        HeatTrain empty = new HeatTrain();
        Check.refused("without units", Check.INDEX, () -> empty.relative(0, 0, 0, 0));
    }

    private static void nowCall() {
        Sentences.test("Promise 22: Returns the tick.");
        HeatTrain x = plant();
        Check.due("at first", 0, x.now());
        x.tick(1);
        Check.due("after one", 1, x.now());
        x.tick(50);
        Check.due("after fifty more", 51, x.now());
        Check.refused("a tick of 0", Check.ARGUMENT, () -> x.tick(0));
        Check.due("after none more", 51, x.now());
        Trains.tickTo(x, 300);
        Check.due("at last", 300, x.now());
        Check.refused("one more", Check.STATE, () -> x.tick(1));
        Check.due("at last still", 300, x.now());
    }
}
