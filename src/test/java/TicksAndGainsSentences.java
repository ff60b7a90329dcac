/** The sentences of 'Ticks' and 'Gains'. */
final class TicksAndGainsSentences {
    private static final int SPLIT = HeatTrain.SPLIT, MIX = HeatTrain.MIX;
    private static final int EXCHANGE = HeatTrain.EXCHANGE, COOLER = HeatTrain.COOLER;

    private TicksAndGainsSentences() {
    }

    static void run() {
        disturbances();
        controllersByNumbers();
        drivenUnits();
        unitsByNumbers();
        trends();
        alarmsArePut();
        orderOfAlarms();
        gains();
        relativeGains();
        pairings();
    }

    /** The unit 0 gives 100 of 50 degrees, the unit 1 is a source to be driven, the unit 2 a cooler. */
    private static HeatTrain plant() {
        HeatTrain x = new HeatTrain();
        x.source(100, 50);
        x.source(10, 0);
        x.unit(COOLER, 2, 0, 0);
        return x;
    }

    private static void disturbances() {
        Sentences.test("Ticks: In a tick, which is counted from 1: disturbances that are scripted for it come, in"
            + " the order in which they were told: the number of a unit becomes so;");
        HeatTrain x = plant();
        Check.refused("no tick 0", Check.ARGUMENT, () -> x.disturb(0, 0, 1));
        x.disturb(3, 0, 31);
        x.disturb(2, 0, 22);
        x.disturb(1, 0, 1);
        x.disturb(2, 0, 20);
        x.disturb(2, 2, 99999);
        x.disturb(300, 0, 300);
        x.disturb(2, 0, 21);
        x.tick(1);
        Check.due("the first tick's", 1, x.ofUnit(0, 0));
        Check.due("in its flow", 1, x.of(0, 0));
        Check.due("the other unit", 0, x.ofUnit(2, 0));
        x.tick(1);
        Check.due("the one told last of three", 21, x.of(0, 0));
        Check.due("the other unit's", 99999, x.ofUnit(2, 0));
        x.tick(1);
        Check.due("the third tick's, which was told first", 31, x.of(0, 0));
        x.set(0, 7);
        Trains.tickTo(x, 299);
        Check.due("they come once", 7, x.of(0, 0));
        x.tick(1);
        Check.due("the last tick's", 300, x.of(0, 0));
    }

    private static void controllersByNumbers() {
        Sentences.test("Ticks: then the controllers, by rising numbers;");
        HeatTrain x = plant();
        x.control(1, 0, 0, 11, 103);
        x.control(1, 0, 0, 22, 103);
        x.control(1, 0, 0, 33, 104);
        x.control(1, 5, 1, 1000, 105);
        x.control(1, 6, 0, 44, 105);
        x.control(1, 7, 0, 55, 1);
        x.tick(1);
        Check.due("the goal by the one with the higher number", 22, x.ofController(3, 0));
        Check.due("its error in the same tick", 22, x.ofController(3, 3));
        Check.due("its sum", 22, x.ofController(3, 1));
        Check.due("another goal", 33, x.ofController(4, 3));
        Check.due("the last one's, by the one ahead of it", 44, x.ofController(5, 3));
    }

    private static void drivenUnits() {
        Sentences.test("Ticks: then units that are driven are set;");
        HeatTrain x = plant();
        x.control(1, 0, 0, 30, 1);
        x.disturb(1, 1, 999);
        x.disturb(1, 0, 998);
        x.set(1, 997);
        x.set(2, 996);
        x.tick(1);
        Check.due("what drives it comes after the disturbance", 30, x.ofUnit(1, 0));
        Check.due("and is in the flow of this tick", 30, x.of(2, 0));
        Check.due("one that is not driven", 998, x.of(0, 0));
        Check.due("one that is set and not driven", 996, x.ofUnit(2, 0));
        x.set(1, 5);
        Check.due("set after the tick", 5, x.ofUnit(1, 0));
        x.tick(1);
        Check.due("driven again", 30, x.ofUnit(1, 0));
        HeatTrain y = plant();
        y.ratio(0, 100, 1);
        y.disturb(2, 0, 50);
        y.tick(2);
        Check.due("by the flow ahead of the disturbance", 100, y.ofUnit(1, 0));
        y.tick(1);
        Check.due("and a tick later", 50, y.ofUnit(1, 0));
    }

    private static void unitsByNumbers() {
        Sentences.test("Ticks: then all units, by rising numbers, give their streams.");
        HeatTrain x = new HeatTrain();
        x.source(1, 100);
        for (int u = 1; u < 12; u++) {
            x.unit(COOLER, 2 * u - 2, 0, u == 1 ? 0 : 1);
        }
        x.tick(1);
        Check.due("through all units in one tick", 90, x.of(22, 1));
        HeatTrain y = new HeatTrain();
        for (int u = 0; u < 11; u++) {
            y.unit(COOLER, 2 * u + 1, 0, 1);
            if (u > 0) {
                y.back(u - 1, 2 * u);
            }
        }
        y.source(1, 100);
        y.back(10, 22);
        y.tick(11);
        Check.due("the other way round, not yet", 0, y.of(0, 1));
        y.tick(1);
        Check.due("the other way round, one unit in each tick", 89, y.of(0, 1));
    }

    private static void trends() {
        Sentences.test("Ticks: Trends keep the warmth of all streams for each tick, at most 300.");
        HeatTrain x = new HeatTrain();
        for (int u = 0; u < 11; u++) {
            x.source(1, 10 * u);
        }
        x.unit(SPLIT, 20, 0, 100);
        for (int t = 1; t <= 6; t++) {
            x.tick(1);
            x.set(t, 0);
        }
        for (int s = 0; s < 24; s++) {
            int warmth = s % 2 == 1 ? 0 : s == 22 ? 1000 : 50 * s;
            int last = s > 1 && s <= 10 ? s / 2 : 6;
            Check.due("the stream " + s + " in the tick " + last, warmth, x.trend(s, last));
            Check.due("the stream " + s + " in the first tick", warmth, x.trend(s, 1));
            Check.due("the stream " + s + " a tick later", last < 6 ? 0 : warmth, x.trend(s, Math.min(6, last + 1)));
        }
        Trains.tickTo(x, 299);
        x.set(1, 1);
        x.tick(1);
        Check.due("in the tick 299", 0, x.trend(2, 299));
        Check.due("in the tick 300", 100, x.trend(2, 300));
        Check.due("in the first one still", 100, x.trend(2, 1));
        Check.due("the last stream", 0, x.trend(23, 300));
        Check.refused("no tick 301", Check.INDEX, () -> x.trend(2, 301));
        Check.refused("no tick to come", Check.STATE, () -> x.tick(1));
    }

    /** The second stream of a source is never warm, so that an error is the goal. */
    private static void alarmsArePut() {
        Sentences.test("Ticks: An alarm is put for a controller that measures, when its error, either way, is more"
            + " than its limit, 500 at first, and was not so in the tick ahead, by the limit of then: with how much"
            + " it is more, and the tick.");
        HeatTrain x = plant();
        x.control(1, 499, 0, 0, 1);
        x.control(1, 500, 0, 0, 1);
        x.control(1, 501, 0, 0, 1);
        x.control(1, 3000, 0, 0, 1);
        x.ratio(0, 999, 1);
        x.aim(3, 3000, 3000);
        Check.due("none ahead of a tick", 0, x.alarms());
        x.tick(1);
        Check.due("of 501 only", 1, x.alarms());
        Check.due("the controller of it", 2, x.quit());
        x.tick(9);
        Check.due("not again", 0, x.alarms());
        x.aim(3, 3000, 2999);
        x.tick(1);
        Check.due("of 3000 with a limit of 2999", 3, x.quit());
        Check.due("no other one", HeatTrain.NONE, x.quit());
        HeatTrain y = plant();
        y.control(0, 0, 0, 0, 1);
        y.control(0, 0, 0, 0, 1);
        y.control(0, 500, 0, 0, 1);
        y.aim(1, 0, 499);
        y.aim(2, 500, 0);
        y.tick(1);
        Check.due("of 500 with a limit of 0", 2, y.quit());
        y.tick(1);
        Check.due("of -500 with a limit of 499", 1, y.alarms());
        Check.due("an error of 0 with a limit of 0 is none", 1, y.quit());
        y.aim(2, 499, 0);
        y.tick(1);
        Check.due("again, after a tick without", 2, y.quit());
        y.aim(2, 501, 0);
        y.tick(1);
        Check.due("from below to above is not again", 0, y.alarms());
        alarmsByTheLimitOfThen();
        alarmsOfLateControllers();
    }

    private static void alarmsByTheLimitOfThen() {
        HeatTrain x = plant();
        x.control(1, 300, 0, 0, 1);
        x.tick(1);
        x.aim(0, 300, 200);
        x.tick(1);
        Check.due("more than a new limit, not more than that of then", 1, x.alarms());
        x.aim(0, 300, 400);
        x.aim(0, 300, 100);
        x.tick(1);
        Check.due("a limit that was not there in a tick", 1, x.alarms());
        x.aim(0, 300, 300);
        x.tick(1);
        Check.due("not more than a new limit", 1, x.alarms());
        x.aim(0, 300, 299);
        x.tick(1);
        Check.due("more again", 2, x.alarms());
        x.aim(0, 0, 299);
        x.aim(0, 300, 299);
        x.tick(1);
        Check.due("a goal that was not there in a tick", 2, x.alarms());
    }

    private static void alarmsOfLateControllers() {
        HeatTrain x = plant();
        x.tick(3);
        x.control(0, 1001, 0, 0, 1);
        Check.due("none without a tick", 0, x.alarms());
        x.tick(1);
        Check.due("of one that has no tick ahead", 1, x.alarms());
        x.control(0, 1100, 0, 0, 1);
        x.tick(1);
        Check.due("the other one of 600 less 500", 1, x.quit());
        Check.due("the first one of 501 less 500", 0, x.quit());
        x.control(1, 0, 0, 501, 103);
        x.control(1, 0, 0, 0, 1);
        x.tick(1);
        Check.due("by a goal that is driven at once", 3, x.quit());
    }

    private static void orderOfAlarms() {
        Sentences.test("Ticks: The alarm that is told first is that with the most, of several the earliest, of these"
            + " that of the lowest controller.");
        HeatTrain x = plant();
        x.control(1, 0, 0, 0, 1);
        x.control(1, 700, 0, 0, 1);
        x.control(1, 900, 0, 0, 1);
        x.control(1, 900, 0, 0, 1);
        x.control(1, 0, 0, 0, 1);
        x.aim(1, 700, 300);
        x.tick(1);
        x.aim(0, 900, 500);
        x.aim(4, 0, 0);
        x.tick(1);
        x.aim(4, 401, 0);
        x.tick(1);
        Check.due("five", 5, x.alarms());
        Check.due("the most, though the last", 4, x.quit());
        Check.due("of 400, the earliest, of the lowest", 1, x.quit());
        Check.due("of 400, the earliest, of the next", 2, x.quit());
        Check.due("of 400, the earliest, of the highest", 3, x.quit());
        Check.due("of 400, the lowest, though later", 0, x.quit());
        Check.due("none", HeatTrain.NONE, x.quit());
        HeatTrain y = plant();
        y.control(1, 502, 0, 0, 1);
        y.control(1, 501, 0, 0, 1);
        y.control(0, 0, 0, 0, 1);
        y.aim(2, 0, 499);
        y.tick(2);
        Check.due("the most", 0, y.quit());
        Check.due("of 1, the earliest", 1, y.quit());
        Check.due("of -500, which is 1 more than 499", 2, y.quit());
        fullAlarms();
    }

    /** A source without a flow is cold, so that the controller 0 turns it on and off by turns. */
    private static void fullAlarms() {
        HeatTrain x = new HeatTrain();
        x.source(0, 300);
        x.source(0, 0);
        x.control(0, 1499, 1, 0, 0);
        x.aim(0, 1499, 1500);
        for (int c = 1; c < 6; c++) {
            x.control(0, 0, 0, 0, 1);
        }
        Trains.tickTo(x, 299);
        x.aim(4, 0, 200);
        x.aim(5, 0, 300);
        x.tick(1);
        Check.due("one of each in every second tick", 900, x.alarms());
        Check.due("the last but one, with the most", 4, x.quit());
        Check.due("the last, with the most then", 5, x.quit());
        for (int i = 0; i < 470; i++) {
            Check.due("quit " + i, 1 + i % 5, x.quit());
        }
        Check.due("those that are left", 428, x.alarms());
    }

    private static void gains() {
        Sentences.test("Gains: The gain of a unit on a stream is how much warmer the stream is, if the unit's number"
            + " is one more (held likewise) from now on, than if it is not, with no controllers and no disturbances,"
            + " after 12 ticks from now.");
        HeatTrain x = new HeatTrain();
        x.source(10, 100);
        x.unit(COOLER, 0, 0, 100);
        x.source(10, 0);
        x.unit(MIX, 4, 2, Integer.MAX_VALUE);
        x.unit(SPLIT, 6, 0, 10);
        x.source(5, 200);
        x.unit(EXCHANGE, 10, 9, 5);
        Check.due("of a COOLER: 8990 by 10, less 900", -1, x.gain(1, 2));
        Check.due("of a SOURCE: 10000 by 11, less 900", 9, x.gain(0, 2));
        Check.due("of a SOURCE on its own stream", 0, x.gain(0, 0));
        Check.due("of a MIX of the greatest number", 0, x.gain(3, 6));
        Check.due("of a SPLIT on its own streams", 0, x.gain(4, 8));
        Check.due("on one ahead of it", 0, x.gain(6, 6));
        Check.due("on an empty one", 0, x.gain(0, 1));
        Check.due("of an EXCHANGE on the cold one: 12320 by 18, less 11970 by 18", 19, x.gain(6, 13));
        Check.due("on the hot one: 5780 by 5, less 6130 by 5", -70, x.gain(6, 12));
        x.tick(50);
        Check.due("the same later", 9, x.gain(0, 2));
        gainsHeld();
        gainsAlone();
        gainsOfTwelveTicks();
    }

    private static void gainsHeld() {
        HeatTrain x = new HeatTrain();
        x.source(998, 300);
        x.source(1, 300);
        x.unit(COOLER, 0, 0, 99999);
        x.unit(COOLER, 2, 0, 200);
        Check.due("a COOLER at the most", 0, x.gain(2, 4));
        Check.due("a SOURCE below the most: 1997010 by 999, less 1994010 by 998", 1, x.gain(0, 4));
        x.set(0, 999);
        Check.due("a SOURCE at the most", 0, x.gain(0, 4));
        x.set(0, 1);
        Check.due("a cooler that takes all", 0, x.gain(0, 4));
        x.set(0, 0);
        Check.due("a SOURCE at 0 on its own stream", 3000, x.gain(0, 0));
        x.set(3, 299);
        Check.due("a COOLER that leaves 1", -10, x.gain(3, 6));
        x.set(3, 300);
        Check.due("a COOLER that leaves 0", 0, x.gain(3, 6));
        HeatTrain y = new HeatTrain();
        y.source(10, 100);
        y.unit(SPLIT, 0, 0, 99);
        y.source(1, 50);
        y.unit(MIX, 2, 4, 0);
        Check.due("a SPLIT below the most: 10500 by 11, less 9500 by 10", 4, y.gain(1, 6));
        y.set(1, 100);
        Check.due("a SPLIT at the most", 0, y.gain(1, 6));
        HeatTrain z = new HeatTrain();
        z.source(999, 300);
        z.source(1, 0);
        z.unit(EXCHANGE, 0, 2, 2);
        Check.due("an EXCHANGE: from 200 to 225", 250, z.gain(2, 5));
        z.set(2, 9999);
        Check.due("an EXCHANGE at the most", 0, z.gain(2, 5));
    }

    private static void gainsAlone() {
        HeatTrain x = new HeatTrain();
        x.source(10, 100);
        x.unit(COOLER, 0, 0, 100);
        x.control(2, 500, 99, 0, 1);
        x.ratio(0, 999, 0);
        for (int t = 1; t < 14; t++) {
            x.disturb(t, 0, 999);
        }
        Check.due("without what drives and disturbs", -1, x.gain(1, 2));
        Check.due("of one that is driven and disturbed", 9, x.gain(0, 2));
        Check.due("the number stays", 100, x.ofUnit(1, 0));
        x.tick(1);
        x.set(0, 10);
        x.set(1, 100);
        Check.due("the same after a tick", 9, x.gain(0, 2));
        Trains.tickTo(x, 300);
        x.set(0, 10);
        x.set(1, 100);
        Check.due("after the last tick", -1, x.gain(1, 2));
        Check.due("the tick stays", 300, x.now());
    }

    /** A loop that gathers a flow: each tick more or less would make the gain another one. */
    private static void gainsOfTwelveTicks() {
        HeatTrain x = new HeatTrain();
        x.source(1, 100);
        x.unit(MIX, 3, 0, 0);
        x.unit(COOLER, 2, 0, 0);
        x.back(1, 4);
        Check.due("1188 by 12, from the start", -10, x.gain(2, 4));
        HeatTrain y = new HeatTrain();
        for (int u = 0; u < 11; u++) {
            y.unit(COOLER, 2 * u + 1, 0, u == 10 ? 100 : 0);
            if (u > 0) {
                y.back(u - 1, 2 * u);
            }
        }
        y.source(10, 100);
        y.back(10, 22);
        Check.due("what comes in the twelfth tick", 9, y.gain(11, 0));
        HeatTrain z = new HeatTrain();
        z.source(1, 300);
        z.source(1, 0);
        z.unit(MIX, 5, 2, 0);
        z.unit(MIX, 4, 0, 0);
        z.back(2, 6);
        Check.due("12 of 300 degrees and 12 of 0, to 24 and 12: 2000 less 1500", 500, z.gain(0, 6));
        Check.due("to 12 and 24: 1000 less 1500", -500, z.gain(1, 6));
        z.tick(6);
        Check.due("18 and 18, to 30 and 18: 1875 less 1500", 375, z.gain(0, 6));
        HeatTrain w = new HeatTrain();
        w.unit(MIX, 1, 0, 0);
        w.source(1, 300);
        w.source(1, 0);
        w.unit(MIX, 2, 4, 0);
        w.back(0, 6);
        w.tick(7);
        Check.due("18 and 18, to 29 and 18: 1851 less 1500", 351, w.gain(1, 0));
    }

    private static void relativeGains() {
        Sentences.test("Gains: The relative gain of two units and two streams, in hundredths, is 100 times a times"
            + " d, divided by (a times d, less b times c), a and b being the gains of the first unit on the first"
            + " and second stream, c and d those of the second unit on these.");
        HeatTrain x = exchanger(20, 200, 15, 20, 10);
        x.unit(COOLER, 4, 0, 500);
        Check.due("a", -31, x.gain(2, 6));
        Check.due("b", 41, x.gain(2, 5));
        Check.due("c", -14, x.gain(1, 6));
        Check.due("d", -29, x.gain(1, 5));
        Check.due("89900 by (899 and 574)", 61, x.relative(2, 1, 6, 5));
        Check.due("the other pairing", 38, x.relative(2, 1, 5, 6));
        Check.due("the units changed too", 61, x.relative(1, 2, 5, 6));
        HeatTrain y = exchanger(6, 21, 4, 23, 27);
        Check.due("-100 by (-1 and 9)", -12, y.relative(2, 1, 4, 5));
        Check.due("-900 by (-9 and 1)", 112, y.relative(2, 1, 5, 4));
        HeatTrain z = new HeatTrain();
        z.source(0, 300);
        z.source(0, 300);
        Check.due("900000000 by 9000000", 100, z.relative(0, 1, 0, 2));
        Check.due("0 by -9000000", 0, z.relative(0, 1, 2, 0));
        Check.due("0 by 0", HeatTrain.NO_GAIN, z.relative(0, 1, 0, 3));
    }

    private static HeatTrain exchanger(int hotFlow, int hotWarmth, int coldFlow, int coldWarmth, int number) {
        HeatTrain x = new HeatTrain();
        x.source(hotFlow, hotWarmth);
        x.source(coldFlow, coldWarmth);
        x.unit(EXCHANGE, 0, 2, number);
        return x;
    }

    /** No call pairs by itself: the relative gain is all that is told of it. */
    private static void pairings() {
        Sentences.test("Gains: The first unit is paired with the first stream, if that is 50 or more;");
        HeatTrain x = exchanger(11, 296, 12, 289, 25);
        Check.due("200 by (2 and 2)", 50, x.relative(0, 2, 4, 5));

        Sentences.test("Gains: otherwise with the second one.");
        HeatTrain y = exchanger(9, 127, 11, 198, 8);
        Check.due("-29400 by (-294 less 306)", 49, y.relative(2, 0, 4, 5));
        Check.due("30600 by (306 and 294)", 51, y.relative(2, 0, 5, 4));
    }
}
