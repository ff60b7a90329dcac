/** The sentences of the promises 1 to 6: a new object, source, unit, back, set, disturb. */
final class UnitCallSentences {
    private static final int SPLIT = HeatTrain.SPLIT, MIX = HeatTrain.MIX;
    private static final int EXCHANGE = HeatTrain.EXCHANGE, COOLER = HeatTrain.COOLER;

    private UnitCallSentences() {
    }

    static void run() {
        newObject();
        sourceCall();
        sourceRanges();
        sourceRefused();
        unitCall();
        unitStreams();
        unitNumbers();
        unitRefused();
        backCall();
        backArguments();
        backRefused();
        setCall();
        setRefused();
        disturbCall();
        disturbTicks();
        disturbRefused();
    }

    private static void newObject() {
        Sentences.test("Promise 1: Makes a train without units, at the tick 0.");
        HeatTrain x = new HeatTrain();
        Check.due("the tick", 0, x.now());
        Check.due("alarms", 0, x.alarms());
        Check.due("quit", HeatTrain.NONE, x.quit());
        Check.due("the balance", 0, x.balance());
        Check.refused("the unit 0", Check.INDEX, () -> x.ofUnit(0, 0));
        Check.refused("the stream 0", Check.INDEX, () -> x.of(0, 0));
        Check.refused("the controller 0", Check.INDEX, () -> x.ofController(0, 0));
        Check.refused("the tick 0 of a trend", Check.INDEX, () -> x.trend(0, 0));
        Check.refused("a disturbance", Check.INDEX, () -> x.disturb(1, 0, 0));
        Check.refused("a gain", Check.INDEX, () -> x.gain(0, 0));
        Check.refused("a relative gain", Check.INDEX, () -> x.relative(0, 0, 0, 0));
        Trains.tickTo(x, 300);
        Check.due("the balance of no units", 0, x.balance());
        HeatTrain y = new HeatTrain();
        y.source(1, 1);
        Check.due("each has units of its own", 0, new HeatTrain().source(2, 2));
        Check.due("and ticks of its own", 0, y.now());
    }

    private static void sourceCall() {
        Sentences.test("Promise 2: Makes a source.");
        HeatTrain x = new HeatTrain();
        x.source(12, 34);
        x.tick(1);
        Check.due("its flow", 12, x.of(0, 0));
        Check.due("its heat", 408, x.of(0, 1));
        Check.refused("it takes no stream", Check.INDEX, () -> x.of(2, 0));

        Sentences.test("Promise 2: Returns the unit.");
        HeatTrain y = new HeatTrain();
        for (int u = 0; u < 12; u++) {
            Check.due("source", u, y.source(0, 0));
        }
    }

    private static void sourceRanges() {
        Sentences.test("Promise 2: `flow`: 0 to 999: its number");
        HeatTrain x = new HeatTrain();
        Check.refusedOutside("the flow", Check.ARGUMENT, 0, 999, v -> x.source(v, 5));
        Check.due("the flow 0", 0, x.source(0, 5));
        Check.due("the flow 999", 1, x.source(999, 5));
        Check.due("the number 0", 0, x.ofUnit(0, 0));
        Check.due("the number 999", 999, x.ofUnit(1, 0));

        Sentences.test("Promise 2: `warmth`: 0 to 300");
        HeatTrain y = new HeatTrain();
        Check.refusedOutside("the warmth", Check.ARGUMENT, 0, 300, v -> y.source(5, v));
        Check.due("the warmth 0", 0, y.source(5, 0));
        Check.due("the warmth 300", 1, y.source(5, 300));
        y.tick(1);
        Check.due("the tenths of 0", 0, y.of(0, 2));
        Check.due("the tenths of 300", 3000, y.of(2, 2));
    }

    private static void sourceRefused() {
        Sentences.test("Promise 2: Throws `IllegalArgumentException` if flow or warmth is out of range");
        HeatTrain x = new HeatTrain();
        Check.refused("the flow", Check.ARGUMENT, () -> x.source(-1, 0));
        Check.refused("the flow above", Check.ARGUMENT, () -> x.source(1000, 300));
        Check.refused("the warmth", Check.ARGUMENT, () -> x.source(0, -1));
        Check.refused("the warmth above", Check.ARGUMENT, () -> x.source(999, 301));
        Check.refused("both", Check.ARGUMENT, () -> x.source(-1, 301));
        Check.refused("no unit came of these", Check.INDEX, () -> x.ofUnit(0, 0));

        Sentences.test("Promise 2: Throws `IllegalStateException` if there are 12 units, or a tick has gone by");
        for (int u = 0; u < 11; u++) {
            x.source(1, 1);
        }
        Check.due("the twelfth", 11, x.source(1, 1));
        Check.refused("the thirteenth", Check.STATE, () -> x.source(1, 1));
        HeatTrain y = new HeatTrain();
        y.tick(1);
        Check.refused("the first one, after a tick", Check.STATE, () -> y.source(1, 1));
        Check.refused("the warmth after a tick", Check.ARGUMENT, () -> y.source(1, 301));
    }

    private static void unitCall() {
        Sentences.test("Promise 3: Makes another unit.");
        HeatTrain x = new HeatTrain();
        x.source(10, 10);
        x.unit(SPLIT, 0, 0, 50);
        x.unit(COOLER, 2, 0, 7);
        x.unit(MIX, 4, 3, 0);
        x.tick(1);
        Check.due("a flow through all", 10, x.of(6, 0));
        Check.due("a heat through all", 93, x.of(6, 1));

        Sentences.test("Promise 3: `kind`: SPLIT to COOLER");
        HeatTrain y = new HeatTrain();
        Check.refusedOutside("the kind", Check.ARGUMENT, SPLIT, COOLER, v -> y.unit(v, 0, 1, 0));
        for (int kind = SPLIT; kind <= COOLER; kind++) {
            int u = kind - SPLIT;
            Check.due("the kind " + kind, u, y.unit(kind, 2 * u, 2 * u + 1, 0));
        }
        Check.refused("the kind SOURCE", Check.ARGUMENT, () -> y.unit(HeatTrain.SOURCE, 8, 9, 0));

        Sentences.test("Promise 3: Returns the unit.");
        HeatTrain z = new HeatTrain();
        for (int u = 0; u < 12; u++) {
            Check.due("unit", u, z.unit(EXCHANGE, 2 * u, 2 * u + 1, 0));
        }
    }

    private static void unitStreams() {
        Sentences.test("Promise 3: `first`: the stream that it takes;");
        HeatTrain x = new HeatTrain();
        Check.due("its own first one, of no other unit", 0, x.unit(SPLIT, 0, 0, 50));
        Check.due("the least that is free", 1, x.unit(COOLER, 1, 0, 0));
        Check.due("its own second one", 2, x.unit(COOLER, 5, 0, 0));
        x.source(6, 10);
        Check.due("a source's", 4, x.unit(COOLER, 6, 0, 1));
        x.tick(1);
        Check.due("is what it gives", 59, x.of(8, 1));

        Sentences.test("Promise 3: the hot one of an EXCHANGE;");
        HeatTrain y = new HeatTrain();
        y.source(3, 100);
        y.source(4, 20);
        y.unit(EXCHANGE, 0, 2, 7);
        y.tick(1);
        Check.due("21 times 800, by 100", 168, y.ofUnit(2, 1));
        Check.due("its flow", 3, y.of(4, 0));

        Sentences.test("Promise 3: of a unit that there is then");
        HeatTrain z = new HeatTrain();
        z.source(3, 100);
        Check.refused("of a unit to come", Check.INDEX, () -> z.unit(COOLER, 4, 0, 0));
        Check.due("of a unit that is there", 1, z.unit(COOLER, 1, 0, 0));
        Check.due("of the unit then", 2, z.unit(COOLER, 4, 0, 0));
        unitSeconds();
    }

    private static void unitSeconds() {
        Sentences.test("Promise 3: `second`: the other one of a MIX or an EXCHANGE;");
        HeatTrain x = new HeatTrain();
        x.source(3, 100);
        x.source(4, 20);
        x.unit(MIX, 0, 2, 0);
        x.source(5, 40);
        x.unit(EXCHANGE, 4, 6, 8);
        Check.due("its own second one", 5, x.unit(MIX, 8, 11, 0));
        Check.due("its own first one", 6, x.unit(EXCHANGE, 9, 12, 8));
        x.tick(1);
        Check.due("a MIX", 7, x.of(4, 0));
        Check.due("the cold one of an EXCHANGE", 5, x.of(9, 0));
        Check.due("40 times 142 by 130", 43, x.ofUnit(4, 1));

        Sentences.test("Promise 3: it does not matter for others");
        HeatTrain y = new HeatTrain();
        y.source(3, 100);
        int[] seconds = {Integer.MIN_VALUE, -1, 0, 2, 3, Integer.MAX_VALUE};
        for (int i = 0; i < seconds.length; i++) {
            int kind = i % 2 == 0 ? SPLIT : COOLER;
            Check.due("a second one of " + seconds[i], i + 1, y.unit(kind, 2 * i, seconds[i], i % 2 == 0 ? 100 : 0));
        }
        Check.due("3 is free still", 7, y.unit(COOLER, 3, 12, 0));
        Check.due("12 is free still", 8, y.unit(COOLER, 12, 12, 1));
        y.tick(1);
        Check.due("the heat through all of them", 299, y.of(16, 1));
    }

    private static void unitNumbers() {
        Sentences.test("Promise 3: `number`: its number, in the range of its kind;");
        int[] kinds = {SPLIT, EXCHANGE, COOLER};
        int[] most = {100, 9999, 99999};
        for (int i = 0; i < 3; i++) {
            int kind = kinds[i];
            HeatTrain x = new HeatTrain();
            Check.refusedOutside("the kind " + kind, Check.STATE, 0, most[i], v -> x.unit(kind, 0, 1, v));
            x.unit(kind, 0, 1, 0);
            x.unit(kind, 2, 3, most[i]);
            Check.due("the least of " + kind, 0, x.ofUnit(0, 0));
            Check.due("the most of " + kind, most[i], x.ofUnit(1, 0));
        }

        Sentences.test("Promise 3: any number for a MIX, which stays with that");
        HeatTrain x = new HeatTrain();
        int[] numbers = {Integer.MIN_VALUE, -1, 0, 100000, Integer.MAX_VALUE};
        for (int u = 0; u < 5; u++) {
            x.unit(MIX, 2 * u, 2 * u + 1, numbers[u]);
        }
        x.gain(4, 0);
        Check.refused("set", Check.ARGUMENT, () -> x.set(1, 0));
        Check.refused("disturb", Check.ARGUMENT, () -> x.disturb(1, 2, 7));
        x.tick(2);
        for (int u = 0; u < 5; u++) {
            Check.due("the number of " + u, numbers[u], x.ofUnit(u, 0));
        }
    }

    private static void unitRefused() {
        Sentences.test("Promise 3: Throws `IllegalArgumentException` if kind is out of range");
        HeatTrain x = new HeatTrain();
        x.source(10, 10);
        int[] kinds = {Integer.MIN_VALUE, -1, 0, 5, Integer.MAX_VALUE};
        for (int kind : kinds) {
            Check.refused("the kind " + kind, Check.ARGUMENT, () -> x.unit(kind, 0, 1, 0));
        }
        Check.refused("no unit came of these", Check.INDEX, () -> x.ofUnit(1, 0));

        Sentences.test("Promise 3: Throws `IndexOutOfBoundsException` if there is no such stream, of either that it"
            + " takes (its own ones and those of lower units are there)");
        for (int kind = SPLIT; kind <= COOLER; kind++) {
            int made = kind;
            Check.refusedOutside("the first of " + kind, Check.INDEX, 0, 3, v -> x.unit(made, v, 1, 0));
        }
        Check.refusedOutside("the second of a MIX", Check.INDEX, 0, 3, v -> x.unit(MIX, 0, v, 0));
        Check.refusedOutside("the second of an EXCHANGE", Check.INDEX, 0, 3, v -> x.unit(EXCHANGE, 0, v, 0));
        Check.due("its own first one and a lower one's", 1, x.unit(MIX, 2, 0, 0));
        Check.due("both of its own", 2, x.unit(EXCHANGE, 5, 4, 0));
        Check.due("a lower one's second one", 3, x.unit(COOLER, 1, 0, 0));
        HeatTrain y = new HeatTrain();
        Check.refused("the stream 2 without units", Check.INDEX, () -> y.unit(COOLER, 2, 0, 0));
        Check.due("its own second one without units", 0, y.unit(COOLER, 1, 0, 0));
        unitRefusedByState();
    }

    private static void unitRefusedByState() {
        Sentences.test("Promise 3: Throws `IllegalStateException` if number is not in range, a stream is taken"
            + " already, or would be twice, there are 12 units, or a tick has gone by");
        HeatTrain x = new HeatTrain();
        x.source(10, 10);
        x.unit(SPLIT, 0, 0, 50);
        Check.refused("a SPLIT of 101", Check.STATE, () -> x.unit(SPLIT, 2, 0, 101));
        Check.refused("an EXCHANGE of 10000", Check.STATE, () -> x.unit(EXCHANGE, 2, 3, 10000));
        Check.refused("a COOLER of 100000", Check.STATE, () -> x.unit(COOLER, 2, 0, 100000));
        Check.refused("a number below 0", Check.STATE, () -> x.unit(COOLER, 2, 0, -1));
        Check.refused("a first stream that is taken", Check.STATE, () -> x.unit(COOLER, 0, 0, 1));
        Check.refused("a first stream of a MIX that is taken", Check.STATE, () -> x.unit(MIX, 0, 2, 1));
        Check.refused("a second stream of a MIX that is taken", Check.STATE, () -> x.unit(MIX, 2, 0, 1));
        Check.refused("a second stream of an EXCHANGE", Check.STATE, () -> x.unit(EXCHANGE, 2, 0, 1));
        Check.refused("a stream twice", Check.STATE, () -> x.unit(MIX, 2, 2, 1));
        Check.refused("its own one twice", Check.STATE, () -> x.unit(EXCHANGE, 4, 4, 1));
        Check.refused("no unit came of these", Check.INDEX, () -> x.ofUnit(2, 0));
        Check.due("a SPLIT that takes one told twice", 2, x.unit(SPLIT, 2, 2, 1));
        Check.due("one that takes its own one", 3, x.unit(COOLER, 6, 0, 1));
        Check.refused("which is taken then", Check.STATE, () -> x.unit(COOLER, 6, 0, 1));
        for (int u = 4; u < 11; u++) {
            x.source(1, 1);
        }
        Check.due("the twelfth unit, of its own last stream", 11, x.unit(COOLER, 23, 0, 1));
        Check.refused("a thirteenth", Check.STATE, () -> x.unit(COOLER, 3, 0, 1));
        Check.refused("a thirteenth, on what its own one would be", Check.STATE, () -> x.unit(COOLER, 24, 0, 1));
        HeatTrain y = new HeatTrain();
        y.source(10, 10);
        y.tick(1);
        Check.refused("one after a tick", Check.STATE, () -> y.unit(COOLER, 0, 0, 1));
        Check.refused("no unit came of it", Check.INDEX, () -> y.ofUnit(1, 0));
    }

    private static void backCall() {
        Sentences.test("Promise 4: Lets a unit take another stream as its first one.");
        HeatTrain x = new HeatTrain();
        x.source(10, 10);
        x.source(20, 20);
        x.source(30, 30);
        x.unit(EXCHANGE, 0, 2, 0);
        x.back(3, 4);
        Check.due("the stream that it took is free", 4, x.unit(COOLER, 0, 0, 1));
        Check.refused("the one that it takes then is not", Check.STATE, () -> x.unit(COOLER, 4, 0, 1));
        Check.refused("its second one is not", Check.STATE, () -> x.unit(COOLER, 2, 0, 1));
        x.tick(1);
        Check.due("the hot one", 30, x.of(6, 0));
        Check.due("the cold one stays", 20, x.of(7, 0));
        Check.due("what the other unit takes", 99, x.of(8, 1));

        Sentences.test("Promise 4: Returns the one before.");
        HeatTrain y = new HeatTrain();
        y.source(10, 10);
        y.unit(MIX, 0, 1, 0);
        Check.due("0, as it was made", 0, y.back(1, 3));
        Check.due("3", 3, y.back(1, 2));
        Check.due("2", 2, y.back(1, 0));
        Check.due("0 again", 0, y.back(1, 3));
    }

    private static void backArguments() {
        Sentences.test("Promise 4: `unit`: no SOURCE");
        HeatTrain x = new HeatTrain();
        x.source(10, 10);
        x.unit(SPLIT, 0, 0, 50);
        x.unit(MIX, 2, 3, 0);
        x.unit(COOLER, 4, 0, 1);
        x.unit(EXCHANGE, 6, 7, 1);
        Check.refused("the SOURCE", Check.STATE, () -> x.back(0, 1));
        int[] before = {0, 2, 4, 6};
        for (int u = 1; u <= 4; u++) {
            Check.due("the unit " + u, before[u - 1], x.back(u, 1));
            Check.due("the unit " + u + " back", 1, x.back(u, before[u - 1]));
        }

        Sentences.test("Promise 4: `stream`: a stream of any unit");
        HeatTrain y = new HeatTrain();
        y.source(10, 10);
        y.unit(COOLER, 1, 0, 1);
        y.source(20, 20);
        Check.due("a lower one's, the least", 1, y.back(1, 0));
        Check.due("its own first one", 0, y.back(1, 2));
        Check.due("its own second one", 2, y.back(1, 3));
        Check.due("a higher one's, the most", 3, y.back(1, 5));
        Check.due("a higher one's first one", 5, y.back(1, 4));
        y.tick(2);
        Check.due("what it takes, as it was", 399, y.of(2, 1));
    }

    private static void backRefused() {
        Sentences.test("Promise 4: Throws `IndexOutOfBoundsException` if there is no such unit or stream");
        HeatTrain x = new HeatTrain();
        Check.refused("the unit 0 without units", Check.INDEX, () -> x.back(0, 0));
        x.source(10, 10);
        x.unit(EXCHANGE, 0, 1, 5);
        Check.refusedOutside("the unit", Check.INDEX, 0, 1, v -> x.back(v, 2));
        Check.refusedOutside("the stream", Check.INDEX, 0, 3, v -> x.back(1, v));
        Check.refusedOutside("the stream of a SOURCE", Check.INDEX, 0, 3, v -> x.back(0, v));

        Sentences.test("Promise 4: Throws `IllegalStateException` if it is a SOURCE, the stream is taken already, by"
            + " itself too, or a tick has gone by");
        x.unit(COOLER, 2, 0, 1);
        Check.refused("a SOURCE", Check.STATE, () -> x.back(0, 3));
        Check.refused("a stream that another unit takes", Check.STATE, () -> x.back(1, 2));
        Check.refused("its second one that another unit takes", Check.STATE, () -> x.back(2, 1));
        Check.refused("its own first one", Check.STATE, () -> x.back(1, 0));
        Check.refused("its own second one", Check.STATE, () -> x.back(1, 1));
        Check.due("a free one", 0, x.back(1, 3));
        x.tick(1);
        Check.refused("after a tick", Check.STATE, () -> x.back(1, 0));
        Check.due("the free one stays taken", 0, x.of(2, 0));
    }

    private static void setCall() {
        Sentences.test("Promise 5: Sets the number of a unit now.");
        HeatTrain x = new HeatTrain();
        x.source(10, 10);
        x.set(0, 20);
        Check.due("ahead of a tick", 20, x.ofUnit(0, 0));
        x.tick(1);
        Check.due("its flow", 20, x.of(0, 0));
        x.set(0, 30);
        Check.due("at once", 30, x.ofUnit(0, 0));
        Check.due("its flow until a tick", 20, x.of(0, 0));
        x.tick(1);
        Check.due("its flow then", 30, x.of(0, 0));
        Trains.tickTo(x, 300);
        x.set(0, 40);
        Check.due("after the last tick", 40, x.ofUnit(0, 0));

        Sentences.test("Promise 5: Returns the one before.");
        Check.due("40", 40, x.set(0, 0));
        Check.due("0", 0, x.set(0, 999));
        Check.due("999", 999, x.set(0, 999));
        HeatTrain y = new HeatTrain();
        y.source(7, 0);
        y.disturb(1, 0, 8);
        Check.due("as it was made", 7, y.set(0, 9));
        y.tick(1);
        Check.due("as it was disturbed", 8, y.set(0, 9));
    }

    private static void setRefused() {
        HeatTrain x = new HeatTrain();
        Sentences.test("Promise 5: Throws `IndexOutOfBoundsException` if there is no such unit");
        Check.refused("the unit 0 without units", Check.INDEX, () -> x.set(0, 0));
        x.source(7, 0);
        x.unit(SPLIT, 0, 0, 7);
        x.unit(MIX, 2, 3, 7);
        x.unit(EXCHANGE, 4, 5, 7);
        x.unit(COOLER, 6, 0, 7);
        Check.refusedOutside("the unit", Check.INDEX, 0, 4, v -> x.set(v, 0));
        Check.refusedOutside("the unit, with a wrong number", Check.INDEX, 0, 4, v -> x.set(v, -1));

        Sentences.test("Promise 5: `unit`: its number");
        Check.due("the least unit", 7, x.set(0, 8));
        Check.due("the greatest unit", 7, x.set(4, 9));
        Check.due("the least one's", 8, x.ofUnit(0, 0));
        Check.due("the greatest one's", 9, x.ofUnit(4, 0));

        Sentences.test("Promise 5: `number`: in the range of its kind");
        int[] most = {999, 100, 0, 9999, 99999};
        for (int u = 0; u < 5; u++) {
            if (u != 2) {
                x.set(u, 0);
                Check.due("the least of " + u, 0, x.set(u, most[u]));
                Check.due("the most of " + u, most[u], x.set(u, 7));
            }
        }

        Sentences.test("Promise 5: Throws `IllegalArgumentException` if number is out of range, for a MIX always");
        for (int u = 0; u < 5; u++) {
            int unit = u;
            Check.refusedOutside("the unit " + u, Check.ARGUMENT, 0, most[u], v -> x.set(unit, v));
            Check.due("the number stays", 7, x.ofUnit(u, 0));
        }
        Check.refused("a MIX to 0", Check.ARGUMENT, () -> x.set(2, 0));
        Check.refused("a MIX to its own number", Check.ARGUMENT, () -> x.set(2, 7));
    }

    private static void disturbCall() {
        Sentences.test("Promise 6: Scripts a disturbance: the number of a unit in a tick.");
        HeatTrain x = new HeatTrain();
        x.source(10, 10);
        x.disturb(2, 0, 20);
        Check.due("not at once", 10, x.ofUnit(0, 0));
        x.tick(1);
        Check.due("not in the tick ahead", 10, x.of(0, 0));
        x.tick(1);
        Check.due("in its tick", 20, x.of(0, 0));
        x.tick(1);
        Check.due("and it stays", 20, x.of(0, 0));

        Sentences.test("Promise 6: Returns how many are to come.");
        HeatTrain y = new HeatTrain();
        y.source(10, 10);
        Check.due("one", 1, y.disturb(1, 0, 1));
        Check.due("two of the same tick", 2, y.disturb(1, 0, 1));
        Check.due("three", 3, y.disturb(2, 0, 1));
        Check.due("four", 4, y.disturb(300, 0, 1));
        y.tick(1);
        Check.due("two are left, and one", 3, y.disturb(2, 0, 1));
        y.tick(1);
        Check.due("one is left, and one", 2, y.disturb(300, 0, 1));
        Trains.tickTo(y, 299);
        Check.due("two are left, and one, for the last tick", 3, y.disturb(300, 0, 1));
    }

    private static void disturbTicks() {
        Sentences.test("Promise 6: `tick`: a later one, to 300");
        HeatTrain x = new HeatTrain();
        x.source(10, 10);
        Check.refusedOutside("the tick, at 0", Check.ARGUMENT, 1, 300, v -> x.disturb(v, 0, 0));
        Check.due("the first", 1, x.disturb(1, 0, 11));
        Check.due("the last", 2, x.disturb(300, 0, 12));
        x.tick(50);
        Check.refusedOutside("the tick, at 50", Check.ARGUMENT, 51, 300, v -> x.disturb(v, 0, 0));
        Check.due("the next", 2, x.disturb(51, 0, 13));
        x.tick(1);
        Check.due("in the next", 13, x.of(0, 0));
        Trains.tickTo(x, 299);
        Check.refusedOutside("the tick, at 299", Check.ARGUMENT, 300, 300, v -> x.disturb(v, 0, 0));
        Check.due("the last is the next", 2, x.disturb(300, 0, 14));
        x.tick(1);
        Check.due("in the last", 14, x.of(0, 0));
        Check.refused("the last, at 300", Check.ARGUMENT, () -> x.disturb(300, 0, 0));
        Check.refused("one more, at 300", Check.ARGUMENT, () -> x.disturb(301, 0, 0));
    }

    private static void disturbRefused() {
        HeatTrain x = new HeatTrain();
        Sentences.test("Promise 6: Throws `IndexOutOfBoundsException` if there is no such unit");
        Check.refused("the unit 0 without units", Check.INDEX, () -> x.disturb(1, 0, 0));
        x.source(7, 0);
        x.unit(SPLIT, 0, 0, 7);
        x.unit(MIX, 2, 3, 7);
        x.unit(EXCHANGE, 4, 5, 7);
        x.unit(COOLER, 6, 0, 7);
        Check.refusedOutside("the unit", Check.INDEX, 0, 4, v -> x.disturb(1, v, 0));

        Sentences.test("Promise 6: Throws `IllegalArgumentException` if tick or number is out of range, for a MIX"
            + " always");
        int[] most = {999, 100, 0, 9999, 99999};
        for (int u = 0; u < 5; u++) {
            int unit = u;
            Check.refusedOutside("the number of " + u, Check.ARGUMENT, 0, most[u], v -> x.disturb(1, unit, v));
            Check.refusedOutside("the tick of " + u, Check.ARGUMENT, 1, 300, v -> x.disturb(v, unit, 0));
        }
        Check.refused("a MIX to 0", Check.ARGUMENT, () -> x.disturb(1, 2, 0));
        Check.refused("a MIX to its own number", Check.ARGUMENT, () -> x.disturb(1, 2, 7));

        Sentences.test("Promise 6: `unit`: its number");
        Check.due("none came of these, and the least unit", 1, x.disturb(1, 0, 8));
        Check.due("the greatest unit", 2, x.disturb(1, 4, 9));
        x.tick(1);
        Check.due("the least one's", 8, x.ofUnit(0, 0));
        Check.due("the greatest one's", 9, x.ofUnit(4, 0));

        Sentences.test("Promise 6: `number`: in the range of its kind");
        for (int u = 0; u < 5; u++) {
            if (u != 2) {
                x.disturb(2, u, most[u]);
                x.disturb(3, u, 0);
            }
        }
        x.tick(1);
        for (int u = 0; u < 5; u++) {
            Check.due("the most of " + u, u == 2 ? 7 : most[u], x.ofUnit(u, 0));
        }
        x.tick(1);
        for (int u = 0; u < 5; u++) {
            Check.due("the least of " + u, u == 2 ? 7 : 0, x.ofUnit(u, 0));
        }
        disturbFull();
    }

    private static void disturbFull() {
        Sentences.test("Promise 6: Throws `IllegalStateException` if 40 are to come");
        HeatTrain x = new HeatTrain();
        x.source(7, 0);
        for (int i = 1; i <= 40; i++) {
            Check.due("disturb", i, x.disturb(i == 40 ? 300 : (i + 1) / 2, 0, i == 40 ? 500 : i));
        }
        Check.refused("the 41st", Check.STATE, () -> x.disturb(300, 0, 0));
        x.tick(1);
        Check.due("the second one of the first tick", 2, x.ofUnit(0, 0));
        Check.due("after two came, the 39th", 39, x.disturb(2, 0, 900));
        Check.due("the 40th", 40, x.disturb(2, 0, 901));
        Check.refused("the 41st again", Check.STATE, () -> x.disturb(2, 0, 902));
        x.tick(1);
        Check.due("of four the one told last", 901, x.ofUnit(0, 0));
        x.tick(1);
        Check.due("the next tick's", 6, x.ofUnit(0, 0));
        x.tick(17);
        Check.due("the tick 20's", 39, x.ofUnit(0, 0));
        for (int i = 2; i <= 40; i++) {
            Check.due("disturb again", i, x.disturb(299, 0, i));
        }
        Check.refused("the 41st at last", Check.STATE, () -> x.disturb(299, 0, 0));
        Trains.tickTo(x, 299);
        Check.due("the last one of 299", 40, x.ofUnit(0, 0));
        x.tick(1);
        Check.due("the one of 300", 500, x.ofUnit(0, 0));
    }
}
