/** Promises 1 to 6: a new object, source, unit, back, set, disturb. */
public final class UnitCallsTest {
    private static final int SPLIT = HeatTrain.SPLIT, MIX = HeatTrain.MIX;
    private static final int EXCHANGE = HeatTrain.EXCHANGE, COOLER = HeatTrain.COOLER;

    public static void main(String[] args) {
        newObject();
        sources();
        sourcesRefused();
        splits();
        mixes();
        exchanges();
        coolers();
        streamsOfLaterUnits();
        unitsRefused();
        twelveUnits();
        backs();
        backsRefused();
        sets();
        disturbances();
        disturbancesRefused();
        Check.end();
    }

    private static void newObject() {
        HeatTrain x = new HeatTrain();
        Check.due("now() of a new one", 0, x.now());
        Check.due("alarms() of a new one", 0, x.alarms());
        Check.due("balance() of a new one", 0, x.balance());
        Check.due("quit() of a new one", HeatTrain.NONE, x.quit());
        Check.refused("ofUnit without a unit", Check.INDEX, () -> x.ofUnit(0, 0));
        Check.refused("of without a stream", Check.INDEX, () -> x.of(0, 0));
        Check.refused("ofController without a controller", Check.INDEX, () -> x.ofController(0, 0));
        Check.due("tick without a unit", 50, x.tick(50));
        Check.due("balance() without a unit", 0, x.balance());
    }

    private static void sources() {
        HeatTrain x = new HeatTrain();
        Check.due("source(0, 0)", 0, x.source(0, 0));
        Check.due("source(999, 300)", 1, x.source(999, 300));
        Check.due("its number", 999, x.ofUnit(1, 0));
        Check.due("its flow ahead of the first tick", 0, x.of(2, 0));
        Check.due("its heat ahead of the first tick", 0, x.of(2, 1));
        x.tick(1);
        Check.due("no flow", 0, x.of(0, 0));
        Check.due("no flow's warmth", 0, x.of(0, 2));
        Check.due("its flow", 999, x.of(2, 0));
        Check.due("its heat", 299700, x.of(2, 1));
        Check.due("its warmth", 3000, x.of(2, 2));
        Check.due("its second stream's flow", 0, x.of(3, 0));
        Check.due("its second stream's heat", 0, x.of(3, 1));
        Check.due("what a source moved", 0, x.ofUnit(1, 1));
    }

    private static void sourcesRefused() {
        HeatTrain x = new HeatTrain();
        Check.refused("source(-1, 0)", Check.ARGUMENT, () -> x.source(-1, 0));
        Check.refused("source(1000, 0)", Check.ARGUMENT, () -> x.source(1000, 0));
        Check.refused("source(0, -1)", Check.ARGUMENT, () -> x.source(0, -1));
        Check.refused("source(0, 301)", Check.ARGUMENT, () -> x.source(0, 301));
        Check.refused("no unit came of these", Check.INDEX, () -> x.ofUnit(0, 0));
        Check.due("source after these", 0, x.source(1, 1));
        x.tick(1);
        Check.refused("source after a tick", Check.STATE, () -> x.source(1, 1));
        Check.refused("source(1000, 0) after a tick", Check.ARGUMENT, () -> x.source(1000, 0));
        Check.refused("no unit came of that", Check.INDEX, () -> x.ofUnit(1, 0));
    }

    private static void splits() {
        HeatTrain x = new HeatTrain();
        x.source(7, 11);
        x.unit(COOLER, 0, 0, 5);
        Check.due("unit(SPLIT, 2, 99, 50), whose second does not matter", 2, x.unit(SPLIT, 2, 99, 50));
        x.tick(1);
        Check.due("first flow", 3, x.of(4, 0));
        Check.due("first heat, 72 times 3 by 7", 30, x.of(4, 1));
        Check.due("second flow", 4, x.of(5, 0));
        Check.due("second heat", 42, x.of(5, 1));
        Check.due("what a split moved", 0, x.ofUnit(2, 1));
        x.set(2, 100);
        x.tick(1);
        Check.due("all of the heat", 72, x.of(4, 1));
        Check.due("nothing left", 0, x.of(5, 0));
        x.set(2, 0);
        x.tick(1);
        Check.due("nothing", 0, x.of(4, 1));
        Check.due("all left", 7, x.of(5, 0));
        x.set(0, 0);
        x.tick(1);
        Check.due("without a flow", 0, x.of(4, 1) + x.of(5, 1) + x.of(4, 0) + x.of(5, 0));
    }

    private static void mixes() {
        HeatTrain x = new HeatTrain();
        x.source(10, 20);
        x.source(5, 50);
        Check.due("a MIX with any number", 2, x.unit(MIX, 2, 0, Integer.MIN_VALUE));
        Check.due("its number stays", Integer.MIN_VALUE, x.ofUnit(2, 0));
        x.tick(1);
        Check.due("flow together", 15, x.of(4, 0));
        Check.due("heat together", 450, x.of(4, 1));
        Check.due("warmth together", 300, x.of(4, 2));
        Check.due("second stream of a MIX", 0, x.of(5, 0));
        Check.due("its number stays so", Integer.MIN_VALUE, x.ofUnit(2, 0));
        Check.due("what a mix moved", 0, x.ofUnit(2, 1));
    }

    private static void exchanges() {
        HeatTrain x = new HeatTrain();
        x.source(100, 200);
        x.source(50, 20);
        x.unit(EXCHANGE, 0, 2, 100);
        x.tick(1);
        Check.due("moved", 6000, x.ofUnit(2, 1));
        Check.due("hot flow", 100, x.of(4, 0));
        Check.due("hot heat", 14000, x.of(4, 1));
        Check.due("cold flow", 50, x.of(5, 0));
        Check.due("cold heat", 7000, x.of(5, 1));
        x.set(2, 0);
        x.tick(1);
        Check.due("moved without transfer", 0, x.ofUnit(2, 1));
        x.set(1, 0);
        x.tick(1);
        Check.due("moved without both", 0, x.ofUnit(2, 1));
        x.set(2, 9999);
        x.tick(1);
        Check.due("moved without a flow", 0, x.ofUnit(2, 1));
        exchangeOtherWay();
    }

    private static void exchangeOtherWay() {
        HeatTrain x = new HeatTrain();
        x.source(100, 20);
        x.source(50, 200);
        x.unit(EXCHANGE, 0, 2, 100);
        x.source(2, 0);
        x.source(2, 5);
        x.unit(EXCHANGE, 6, 8, 4);
        x.tick(1);
        Check.due("moved the other way", -6000, x.ofUnit(2, 1));
        Check.due("what was cold as the hot one", 8000, x.of(4, 1));
        Check.due("what was warm as the cold one", 4000, x.of(5, 1));
        Check.due("-400 by 60, towards 0", -6, x.ofUnit(5, 1));
        Check.due("heat there", 6, x.of(10, 1));
        Check.due("heat left", 4, x.of(11, 1));
    }

    private static void coolers() {
        HeatTrain x = new HeatTrain();
        x.source(10, 10);
        x.unit(COOLER, 0, -5, 40);
        x.tick(1);
        Check.due("flow", 10, x.of(2, 0));
        Check.due("heat", 60, x.of(2, 1));
        Check.due("away", 40, x.ofUnit(1, 1));
        Check.due("second stream of a COOLER", 0, x.of(3, 0));
        x.set(1, 99999);
        x.tick(1);
        Check.due("heat, at least 0", 0, x.of(2, 1));
        Check.due("away, all", 100, x.ofUnit(1, 1));
    }

    private static void streamsOfLaterUnits() {
        HeatTrain x = new HeatTrain();
        x.source(10, 10);
        Check.due("a MIX that takes its own stream", 1, x.unit(MIX, 0, 2, 0));
        x.tick(1);
        Check.due("its flow", 10, x.of(2, 0));
        x.tick(2);
        Check.due("its flow of three ticks", 30, x.of(2, 0));
        Check.due("its heat of three ticks", 300, x.of(2, 1));
        HeatTrain y = new HeatTrain();
        y.unit(COOLER, 0, 0, 1);
        y.source(10, 10);
        y.back(0, 2);
        y.tick(1);
        Check.due("a higher one's stream, of the tick ahead", 0, y.of(0, 0));
        y.tick(1);
        Check.due("a higher one's stream, one tick later", 99, y.of(0, 1));
    }

    private static void unitsRefused() {
        HeatTrain x = new HeatTrain();
        x.source(10, 10);
        x.unit(SPLIT, 0, 0, 50);
        Check.refused("the kind SOURCE", Check.ARGUMENT, () -> x.unit(0, 2, 3, 1));
        Check.refused("the kind 5", Check.ARGUMENT, () -> x.unit(5, 2, 3, 1));
        Check.refused("the kind -1, ahead of the stream", Check.ARGUMENT, () -> x.unit(-1, 99, 3, 1));
        Check.refused("the stream -1", Check.INDEX, () -> x.unit(COOLER, -1, 0, 1));
        Check.refused("the stream 6, of the unit 3", Check.INDEX, () -> x.unit(COOLER, 6, 0, 1));
        Check.refused("the second stream 6", Check.INDEX, () -> x.unit(MIX, 2, 6, 1));
        Check.refused("the second stream -1", Check.INDEX, () -> x.unit(EXCHANGE, 2, -1, 1));
        Check.refused("a stream, ahead of the number", Check.INDEX, () -> x.unit(COOLER, 6, 0, -1));
        Check.refused("a second stream, ahead of a first one taken", Check.INDEX, () -> x.unit(MIX, 0, 6, 1));
        Check.refused("a SPLIT of 101", Check.STATE, () -> x.unit(SPLIT, 2, 0, 101));
        Check.refused("a SPLIT of -1", Check.STATE, () -> x.unit(SPLIT, 2, 0, -1));
        Check.refused("an EXCHANGE of 10000", Check.STATE, () -> x.unit(EXCHANGE, 2, 3, 10000));
        Check.refused("an EXCHANGE of -1", Check.STATE, () -> x.unit(EXCHANGE, 2, 3, -1));
        Check.refused("a COOLER of 100000", Check.STATE, () -> x.unit(COOLER, 2, 0, 100000));
        Check.refused("a COOLER of -1", Check.STATE, () -> x.unit(COOLER, 2, 0, -1));
        Check.refused("a stream taken", Check.STATE, () -> x.unit(COOLER, 0, 0, 1));
        Check.refused("a second stream taken", Check.STATE, () -> x.unit(MIX, 2, 0, 1));
        Check.refused("a stream twice", Check.STATE, () -> x.unit(EXCHANGE, 2, 2, 1));
        Check.refused("no unit came of these", Check.INDEX, () -> x.ofUnit(2, 0));
        Check.due("no stream was taken by these", 2, x.unit(MIX, 2, 3, 1));
        x.tick(1);
        Check.refused("a unit after a tick", Check.STATE, () -> x.unit(COOLER, 4, 0, 1));
        Check.refused("a wrong stream after a tick", Check.INDEX, () -> x.unit(COOLER, 8, 0, 1));
        Check.refused("a wrong kind after a tick", Check.ARGUMENT, () -> x.unit(9, 4, 0, 1));
    }

    private static void twelveUnits() {
        HeatTrain x = new HeatTrain();
        for (int u = 0; u < 11; u++) {
            x.source(u, u);
        }
        Check.due("the last unit", 11, x.unit(EXCHANGE, 22, 23, 9999));
        Check.refused("a source above 12", Check.STATE, () -> x.source(1, 1));
        Check.refused("a wrong source above 12", Check.ARGUMENT, () -> x.source(-1, 1));
        Check.refused("a unit above 12", Check.STATE, () -> x.unit(SPLIT, 0, 0, 50));
        Check.refused("a stream above those of 12", Check.INDEX, () -> x.unit(SPLIT, 26, 0, 50));
        Check.refused("a wrong kind above 12", Check.ARGUMENT, () -> x.unit(0, 0, 0, 50));
        Check.refused("no unit 12", Check.INDEX, () -> x.ofUnit(12, 0));
        x.tick(1);
        Check.due("the heat of the source 10", 100, x.of(20, 1));
    }

    private static void backs() {
        HeatTrain x = new HeatTrain();
        x.source(10, 10);
        x.unit(SPLIT, 0, 0, 50);
        x.unit(MIX, 2, 3, 0);
        Check.due("back(2, 5): the one before", 2, x.back(2, 5));
        Check.due("back(2, 2): the one before that was free", 5, x.back(2, 2));
        Check.due("back(1, 4): from the source to the MIX", 0, x.back(1, 4));
        Check.due("the source's stream is free", 3, x.unit(COOLER, 0, 0, 10));
        x.tick(1);
        Check.due("what the cooler takes", 90, x.of(6, 1));
        Check.due("the loop stays empty", 0, x.of(4, 0));
        HeatTrain y = new HeatTrain();
        y.source(10, 10);
        y.source(20, 20);
        y.unit(EXCHANGE, 1, 2, 0);
        Check.due("the hot one is the first", 1, y.back(2, 0));
        y.tick(1);
        Check.due("hot flow", 10, y.of(4, 0));
        Check.due("cold flow", 20, y.of(5, 0));
    }

    private static void backsRefused() {
        HeatTrain x = new HeatTrain();
        x.source(10, 10);
        x.unit(SPLIT, 0, 0, 50);
        x.unit(MIX, 2, 3, 0);
        Check.refused("back of the unit -1", Check.INDEX, () -> x.back(-1, 4));
        Check.refused("back of the unit 3", Check.INDEX, () -> x.back(3, 4));
        Check.refused("back to the stream -1", Check.INDEX, () -> x.back(2, -1));
        Check.refused("back to the stream 6", Check.INDEX, () -> x.back(2, 6));
        Check.refused("a SOURCE to the stream 6", Check.INDEX, () -> x.back(0, 6));
        Check.refused("a SOURCE", Check.STATE, () -> x.back(0, 4));
        Check.refused("to one that another takes", Check.STATE, () -> x.back(2, 0));
        Check.refused("to the one that it takes", Check.STATE, () -> x.back(2, 2));
        Check.refused("to its own second one", Check.STATE, () -> x.back(2, 3));
        x.tick(1);
        Check.refused("after a tick", Check.STATE, () -> x.back(2, 4));
        Check.refused("to the stream 6 after a tick", Check.INDEX, () -> x.back(2, 6));
        Check.due("nothing changed", 100, x.of(4, 1));
        Check.due("the source's stream is not taken by it", 10, x.of(0, 0));
    }

    private static HeatTrain oneOfEach() {
        HeatTrain x = new HeatTrain();
        x.source(10, 10);
        x.unit(SPLIT, 0, 0, 50);
        x.unit(MIX, 2, 3, 7);
        x.unit(EXCHANGE, 4, 5, 60);
        x.unit(COOLER, 6, 0, 70);
        return x;
    }

    private static void sets() {
        HeatTrain x = oneOfEach();
        int[] most = {999, 100, -1, 9999, 99999};
        int[] before = {10, 50, 7, 60, 70};
        for (int u = 0; u < 5; u++) {
            int unit = u;
            Check.refused("set below the range of " + u, Check.ARGUMENT, () -> x.set(unit, -1));
            Check.refused("set above the range of " + u, Check.ARGUMENT, () -> x.set(unit, most[unit] + 1));
            Check.due("the number is as it was", before[u], x.ofUnit(u, 0));
            if (u != 2) {
                Check.due("set to the most of " + u, before[u], x.set(u, most[u]));
                Check.due("set to the least of " + u, most[u], x.set(u, 0));
                Check.due("the number of " + u, 0, x.ofUnit(u, 0));
            }
        }
        Check.refused("a MIX to its own number", Check.ARGUMENT, () -> x.set(2, 7));
        Check.refused("the unit -1", Check.INDEX, () -> x.set(-1, 0));
        Check.refused("the unit 5, ahead of the number", Check.INDEX, () -> x.set(5, -1));
        Check.due("set ahead of a tick", 0, x.set(0, 20));
        x.tick(1);
        Check.due("the flow as set", 20, x.of(0, 0));
        Check.due("set after a tick", 20, x.set(0, 30));
        Check.due("the flow stays until a tick", 20, x.of(0, 0));
        Check.due("the number is so at once", 30, x.ofUnit(0, 0));
        Check.due("the balance does not move with it", 0, x.balance());
    }

    private static void disturbances() {
        HeatTrain x = oneOfEach();
        Check.due("the first one", 1, x.disturb(3, 0, 30));
        Check.due("a second one, of the same tick", 2, x.disturb(3, 0, 40));
        Check.due("one of an earlier tick", 3, x.disturb(2, 0, 999));
        Check.due("one of the tick 300", 4, x.disturb(300, 4, 99999));
        x.tick(1);
        Check.due("none yet", 10, x.of(0, 0));
        x.tick(1);
        Check.due("that of the tick 2", 999, x.ofUnit(0, 0));
        Check.due("is in its flow", 999, x.of(0, 0));
        x.tick(1);
        Check.due("of two the later told stays", 40, x.of(0, 0));
        Check.due("one is left, and another one", 2, x.disturb(4, 1, 100));
        x.set(0, 50);
        x.tick(1);
        Check.due("the split's number", 100, x.ofUnit(1, 0));
        Check.due("a disturbance comes once", 50, x.of(0, 0));
        for (int i = 0; i < 5; i++) {
            x.tick(50);
        }
        x.tick(45);
        Check.due("at 299 not yet", 70, x.ofUnit(4, 0));
        Check.due("the tick 300", 300, x.tick(1));
        Check.due("at 300", 99999, x.ofUnit(4, 0));
    }

    private static void disturbancesRefused() {
        HeatTrain x = oneOfEach();
        x.tick(4);
        Check.refused("the unit -1", Check.INDEX, () -> x.disturb(9, -1, 0));
        Check.refused("the unit 5, ahead of the tick", Check.INDEX, () -> x.disturb(0, 5, 0));
        Check.refused("the tick that is", Check.ARGUMENT, () -> x.disturb(4, 0, 0));
        Check.refused("the tick 301", Check.ARGUMENT, () -> x.disturb(301, 0, 0));
        Check.refused("a number below", Check.ARGUMENT, () -> x.disturb(5, 0, -1));
        Check.refused("a number above", Check.ARGUMENT, () -> x.disturb(5, 1, 101));
        Check.refused("a MIX", Check.ARGUMENT, () -> x.disturb(5, 2, 7));
        for (int i = 1; i <= 40; i++) {
            Check.due("how many are to come", i, x.disturb(4 + i, 0, i));
        }
        Check.refused("the 41st", Check.STATE, () -> x.disturb(5, 0, 0));
        Check.refused("the 41st of a wrong tick", Check.ARGUMENT, () -> x.disturb(4, 0, 0));
        Check.refused("the 41st of a wrong number", Check.ARGUMENT, () -> x.disturb(5, 0, 1000));
        x.tick(1);
        Check.due("the refused ones do not come", 1, x.of(0, 0));
        Check.due("there is room again", 40, x.disturb(6, 0, 500));
        x.tick(1);
        Check.due("the one told last comes last", 500, x.of(0, 0));
    }
}
