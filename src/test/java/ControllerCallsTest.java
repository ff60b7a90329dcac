/** Promises 7 to 13: control, ratio, feed, aim, select, tick, quit. */
public final class ControllerCallsTest {
    private static final int SPLIT = HeatTrain.SPLIT, MIX = HeatTrain.MIX, COOLER = HeatTrain.COOLER;

    public static void main(String[] args) {
        controls();
        sumsAreHeld();
        outputsAreHeldToTheKind();
        cascades();
        cascadesToNothing();
        controlsRefused();
        ratios();
        ratiosRefused();
        feeds();
        feedsRefused();
        aims();
        aimsRefused();
        leastAndGreatest();
        resetIsNotHeldToTheRange();
        resetTakesFeedAndIsHeld();
        selectsRefused();
        ticks();
        orderInATick();
        alarmLimits();
        alarmsAgain();
        limitOfThen();
        alarmOrder();
        mostAlarms();
        Check.end();
    }

    /** The unit 0 gives 100 of 50 degrees, the unit 1 is a source to be driven, the unit 2 a cooler of nothing. */
    private static HeatTrain plant() {
        HeatTrain x = new HeatTrain();
        x.source(100, 50);
        x.source(10, 0);
        x.unit(COOLER, 2, 0, 0);
        return x;
    }

    private static void controls() {
        HeatTrain x = plant();
        Check.due("control", 0, x.control(0, 700, 10, 50, 1));
        Check.due("its goal", 700, x.ofController(0, 0));
        Check.due("its sum at first", 0, x.ofController(0, 1));
        Check.due("its output at first", 0, x.ofController(0, 2));
        Check.due("its error at first", 0, x.ofController(0, 3));
        Check.due("the unit as it was", 10, x.ofUnit(1, 0));
        x.tick(1);
        Check.due("the error by the tick ahead", 700, x.ofController(0, 3));
        Check.due("the sum", 7000, x.ofController(0, 1));
        Check.due("the output", 57, x.ofController(0, 2));
        Check.due("the unit is driven", 57, x.ofUnit(1, 0));
        Check.due("in the same tick", 57, x.of(2, 0));
        x.tick(2);
        Check.due("the sum later", 11000, x.ofController(0, 1));
        Check.due("the output later", 61, x.ofController(0, 2));
        x.set(1, 5);
        x.tick(1);
        Check.due("what is set is driven over", 63, x.ofUnit(1, 0));
        Check.due("a controller after ticks", 1, x.control(0, 497, -99, 0, 2));
        x.tick(1);
        Check.due("an error below 0", -3, x.ofController(1, 3));
        x.aim(1, 510, 500);
        x.tick(2);
        Check.due("a sum of -1683", -1683, x.ofController(1, 1));
        Check.due("by 1000, towards 0", -1, x.ofController(1, 2));
    }

    private static void sumsAreHeld() {
        HeatTrain x = plant();
        x.control(1, 3000, 99, 99999, 2);
        x.control(1, 3000, -99, 0, 1);
        x.tick(33);
        Check.due("a sum", 9801000, x.ofController(0, 1));
        x.tick(1);
        Check.due("a sum held", 10000000, x.ofController(0, 1));
        Check.due("a sum held below", -10000000, x.ofController(1, 1));
        Check.due("the output of it", 109999, x.ofController(0, 2));
        Check.due("the output of that below", -10000, x.ofController(1, 2));
        Check.due("the unit held", 99999, x.ofUnit(2, 0));
        Check.due("the unit held at 0", 0, x.ofUnit(1, 0));
        x.aim(0, 0, 500);
        x.tick(50);
        Check.due("no error, no change", 10000000, x.ofController(0, 1));
    }

    private static void outputsAreHeldToTheKind() {
        HeatTrain x = new HeatTrain();
        x.source(100, 50);
        x.unit(SPLIT, 0, 0, 50);
        x.unit(HeatTrain.EXCHANGE, 2, 3, 50);
        x.control(5, 0, 0, 99999, 0);
        x.control(5, 0, 0, 99999, 1);
        x.control(5, 0, 0, 99999, 2);
        x.tick(1);
        Check.due("a SOURCE", 999, x.ofUnit(0, 0));
        Check.due("a SPLIT", 100, x.ofUnit(1, 0));
        Check.due("an EXCHANGE", 9999, x.ofUnit(2, 0));
    }

    private static void cascades() {
        HeatTrain x = plant();
        Check.due("one that drives a goal that is not there", 0, x.control(0, 700, 10, 50, 101));
        x.tick(1);
        Check.due("its output", 57, x.ofController(0, 2));
        Check.due("the other one", 1, x.control(0, 900, 1, 0, 1));
        Check.due("its goal until a tick", 900, x.ofController(1, 0));
        x.tick(1);
        Check.due("the outer output", 59, x.ofController(0, 2));
        Check.due("is the goal", 59, x.ofController(1, 0));
        Check.due("at once", 59 - 500, x.ofController(1, 3));
    }

    private static void cascadesToNothing() {
        HeatTrain x = plant();
        x.control(1, 0, 0, 99999, 101);
        x.control(1, 500, 0, 0, 1);
        x.control(1, 3000, -99, 0, 103);
        x.control(1, 500, 0, 0, 1);
        x.control(1, 0, 0, 99, 105);
        Check.due("a ratio station in the place", 5, x.ratio(0, 100, 1));
        x.tick(1);
        Check.due("a goal held above", 3000, x.ofController(1, 0));
        Check.due("the output below 0", -297, x.ofController(2, 2));
        Check.due("a goal held below", 0, x.ofController(3, 0));
        Check.due("a ratio station has no goal", 0, x.ofController(5, 0));
        HeatTrain y = plant();
        y.control(1, 0, 0, 70, 102);
        y.control(1, 0, 0, 80, 102);
        y.control(1, 5, 0, 0, 1);
        y.tick(1);
        Check.due("of two that drive a goal the later one stays", 80, y.ofController(2, 0));
    }

    private static void controlsRefused() {
        HeatTrain x = new HeatTrain();
        x.source(1, 1);
        x.source(1, 1);
        x.unit(MIX, 0, 2, 0);
        Check.refused("the stream -1", Check.INDEX, () -> x.control(-1, 0, 0, 0, 0));
        Check.refused("the stream 6", Check.INDEX, () -> x.control(6, 0, 0, 0, 0));
        Check.refused("the unit -1", Check.INDEX, () -> x.control(0, 0, 0, 0, -1));
        Check.refused("the unit 3", Check.INDEX, () -> x.control(0, 0, 0, 0, 3));
        Check.refused("the unit 99", Check.INDEX, () -> x.control(0, 0, 0, 0, 99));
        Check.refused("the controller itself", Check.INDEX, () -> x.control(0, 0, 0, 0, 100));
        Check.refused("the controller 6", Check.INDEX, () -> x.control(0, 0, 0, 0, 106));
        Check.refused("a great controller", Check.INDEX, () -> x.control(0, 0, 0, 0, Integer.MAX_VALUE));
        Check.refused("a unit far below", Check.INDEX, () -> x.control(0, 0, 0, 0, Integer.MIN_VALUE));
        Check.refused("the unit 3, ahead of the goal", Check.INDEX, () -> x.control(0, -1, 0, 0, 3));
        Check.refused("the goal -1", Check.ARGUMENT, () -> x.control(0, -1, 0, 0, 0));
        Check.refused("the goal 3001", Check.ARGUMENT, () -> x.control(0, 3001, 0, 0, 0));
        Check.refused("the gain -100", Check.ARGUMENT, () -> x.control(0, 0, -100, 0, 0));
        Check.refused("the gain 100", Check.ARGUMENT, () -> x.control(0, 0, 100, 0, 0));
        Check.refused("the base -1", Check.ARGUMENT, () -> x.control(0, 0, 0, -1, 0));
        Check.refused("the base 100000", Check.ARGUMENT, () -> x.control(0, 0, 0, 100000, 0));
        Check.refused("a MIX", Check.ARGUMENT, () -> x.control(0, 0, 0, 0, 2));
        Check.due("the edges", 0, x.control(5, 3000, 99, 99999, 105));
        Check.due("the lower edges", 1, x.control(0, 0, -99, 0, 102));
        for (int c = 2; c < 6; c++) {
            Check.due("another one", c, x.control(0, 0, 0, 0, 0));
        }
        Check.refused("a seventh", Check.STATE, () -> x.control(0, 0, 0, 0, 0));
        Check.refused("a seventh of a MIX", Check.ARGUMENT, () -> x.control(0, 0, 0, 0, 2));
        Check.refused("a seventh for a controller", Check.INDEX, () -> x.control(0, 0, 0, 0, 105));
        Check.refused("no controller 6", Check.INDEX, () -> x.ofController(6, 0));
    }

    private static void ratios() {
        HeatTrain x = new HeatTrain();
        x.source(33, 10);
        x.source(7, 10);
        Check.due("ratio", 0, x.ratio(0, 150, 1));
        Check.due("its output at first", 0, x.ofController(0, 2));
        x.tick(1);
        Check.due("the flow of the tick ahead", 0, x.ofUnit(1, 0));
        x.tick(1);
        Check.due("33 times 150 by 100", 49, x.ofUnit(1, 0));
        Check.due("its output", 49, x.ofController(0, 2));
        Check.due("its goal", 0, x.ofController(0, 0));
        Check.due("its sum", 0, x.ofController(0, 1));
        Check.due("its error", 0, x.ofController(0, 3));
        x.set(0, 999);
        Check.due("a second one", 1, x.ratio(0, 999, 1));
        x.select(1);
        x.tick(2);
        Check.due("an output above the range", 9980, x.ofController(1, 2));
        Check.due("is held for the unit", 999, x.ofUnit(1, 0));
        Check.due("no alarm of a ratio station", 0, x.alarms());
    }

    private static void ratiosRefused() {
        HeatTrain x = new HeatTrain();
        x.source(1, 1);
        x.source(1, 1);
        x.unit(MIX, 0, 2, 0);
        Check.refused("the stream -1", Check.INDEX, () -> x.ratio(-1, 0, 0));
        Check.refused("the stream 6", Check.INDEX, () -> x.ratio(6, 0, 0));
        Check.refused("the unit -1", Check.INDEX, () -> x.ratio(0, 0, -1));
        Check.refused("the unit 3", Check.INDEX, () -> x.ratio(0, 0, 3));
        Check.refused("a controller's goal", Check.INDEX, () -> x.ratio(0, 0, 105));
        Check.refused("the unit 3, ahead of hundredths", Check.INDEX, () -> x.ratio(0, -1, 3));
        Check.refused("-1 hundredths", Check.ARGUMENT, () -> x.ratio(0, -1, 0));
        Check.refused("1000 hundredths", Check.ARGUMENT, () -> x.ratio(0, 1000, 0));
        Check.refused("a MIX", Check.ARGUMENT, () -> x.ratio(0, 0, 2));
        Check.refused("no controller came of these", Check.INDEX, () -> x.ofController(0, 0));
        for (int c = 0; c < 6; c++) {
            Check.due("a station", c, x.ratio(0, 999, 0));
        }
        Check.refused("a seventh", Check.STATE, () -> x.ratio(0, 0, 0));
        Check.refused("a seventh of a MIX", Check.ARGUMENT, () -> x.ratio(0, 0, 2));
        Check.refused("a seventh of the unit 3", Check.INDEX, () -> x.ratio(0, 0, 3));
    }

    private static void feeds() {
        HeatTrain x = plant();
        x.control(0, 500, 0, 100, 1);
        x.feed(0, 0, 150);
        x.tick(1);
        Check.due("150 times -200 by 100", 100 - 300, x.ofController(0, 2));
        x.tick(1);
        Check.due("150 times 300 by 100", 100 + 450, x.ofController(0, 2));
        x.feed(0, 0, -500);
        x.tick(1);
        Check.due("another one", 100 - 1500, x.ofController(0, 2));
        x.feed(0, 1, 500);
        x.tick(1);
        Check.due("of another stream", 100 - 1000, x.ofController(0, 2));
        x.feed(0, 1, 0);
        x.tick(1);
        Check.due("none", 100, x.ofController(0, 2));
        HeatTrain y = new HeatTrain();
        y.source(100, 21);
        y.control(0, 0, 0, 0, 0);
        y.feed(0, 0, -15);
        y.tick(2);
        Check.due("-150 by 100, towards 0", -1, y.ofController(0, 2));
    }

    private static void feedsRefused() {
        HeatTrain x = plant();
        x.control(0, 500, 0, 100, 1);
        x.ratio(0, 10, 1);
        x.feed(0, 0, 100);
        Check.refused("the controller -1", Check.INDEX, () -> voidly(() -> x.feed(-1, 0, 0)));
        Check.refused("the controller 2", Check.INDEX, () -> voidly(() -> x.feed(2, 0, 0)));
        Check.refused("the stream -1", Check.INDEX, () -> voidly(() -> x.feed(0, -1, 0)));
        Check.refused("the stream 6", Check.INDEX, () -> voidly(() -> x.feed(0, 6, 0)));
        Check.refused("the stream 6 of a station", Check.INDEX, () -> voidly(() -> x.feed(1, 6, 501)));
        Check.refused("501 hundredths", Check.ARGUMENT, () -> voidly(() -> x.feed(0, 0, 501)));
        Check.refused("-501 hundredths", Check.ARGUMENT, () -> voidly(() -> x.feed(0, 0, -501)));
        Check.refused("501 hundredths of a station", Check.ARGUMENT, () -> voidly(() -> x.feed(1, 0, 501)));
        Check.refused("a station", Check.STATE, () -> voidly(() -> x.feed(1, 0, 5)));
        x.tick(2);
        Check.due("the feed is as it was", 400, x.ofController(0, 2));
        Check.due("the station too", 10, x.ofController(1, 2));
    }

    private static long voidly(Runnable call) {
        call.run();
        return 0;
    }

    private static void aims() {
        HeatTrain x = plant();
        x.control(0, 500, 10, 0, 1);
        Check.due("aim", 500, x.aim(0, 3000, 3000));
        Check.due("the goal then", 3000, x.ofController(0, 0));
        x.tick(1);
        Check.due("the error by it", 3000, x.ofController(0, 3));
        Check.due("3000 is not more than the limit", 0, x.alarms());
        Check.due("aim to 0", 3000, x.aim(0, 0, 0));
        Check.due("the goal 0", 0, x.ofController(0, 0));
        Check.due("the sum stays", 30000, x.ofController(0, 1));
        x.tick(1);
        Check.due("more than the limit 0", 1, x.alarms());
    }

    private static void aimsRefused() {
        HeatTrain x = plant();
        x.control(0, 500, 10, 0, 1);
        x.ratio(0, 10, 1);
        Check.refused("the controller -1", Check.INDEX, () -> x.aim(-1, 0, 0));
        Check.refused("the controller 2, ahead of the goal", Check.INDEX, () -> x.aim(2, -1, 0));
        Check.refused("the goal -1", Check.ARGUMENT, () -> x.aim(0, -1, 0));
        Check.refused("the goal 3001", Check.ARGUMENT, () -> x.aim(0, 3001, 0));
        Check.refused("the limit -1", Check.ARGUMENT, () -> x.aim(0, 0, -1));
        Check.refused("the limit 3001", Check.ARGUMENT, () -> x.aim(0, 0, 3001));
        Check.refused("the limit 3001 of a station", Check.ARGUMENT, () -> x.aim(1, 0, 3001));
        Check.refused("a station", Check.STATE, () -> x.aim(1, 0, 0));
        Check.due("the goal is as it was", 500, x.ofController(0, 0));
        x.tick(1);
        Check.due("the limit too", 0, x.alarms());
        Check.due("a station has no goal", 0, x.ofController(1, 0));
    }

    private static void leastAndGreatest() {
        HeatTrain x = plant();
        x.control(0, 700, 0, 30, 1);
        x.control(0, 700, 0, 40, 1);
        x.tick(1);
        Check.due("the least at first", 30, x.ofUnit(1, 0));
        Check.due("its own output, not taken", 40, x.ofController(1, 2));
        Check.due("its sum follows", -10000, x.ofController(1, 1));
        Check.due("the sum of the one taken", 0, x.ofController(0, 1));
        x.tick(1);
        Check.due("its output then", 30, x.ofController(1, 2));
        Check.due("its sum with the same output", -10000, x.ofController(1, 1));
        Check.due("select", true, x.select(1));
        x.ratio(0, 35, 1);
        x.tick(1);
        Check.due("the greatest, of a station", 35, x.ofUnit(1, 0));
        Check.due("a sum follows a station", 5000, x.ofController(0, 1));
        Check.due("the other one too", -5000, x.ofController(1, 1));
        Check.due("a station has no sum", 0, x.ofController(2, 1));
        Check.due("select again", false, x.select(1));
        x.set(0, 20);
        x.tick(2);
        Check.due("the least, of the station", 7, x.ofUnit(1, 0));
        Check.due("another unit's choice is its own", true, x.select(2));
    }

    private static void resetIsNotHeldToTheRange() {
        HeatTrain x = plant();
        x.control(0, 0, 0, 2000, 1);
        x.control(0, 0, 0, 3000, 1);
        x.tick(1);
        Check.due("held", 999, x.ofUnit(1, 0));
        Check.due("by what was taken, not held", -1000000, x.ofController(1, 1));
        HeatTrain y = plant();
        y.control(0, 0, 0, 20, 1);
        y.control(0, 0, 0, 30, 2);
        y.tick(1);
        Check.due("each unit has its own", 20, y.ofUnit(1, 0));
        Check.due("the other unit", 30, y.ofUnit(2, 0));
        Check.due("no sum follows another unit's", 0, y.ofController(1, 1));
    }

    private static void resetTakesFeedAndIsHeld() {
        HeatTrain x = plant();
        x.control(0, 0, 0, 30, 1);
        x.control(0, 0, 0, 40, 1);
        x.feed(1, 1, -100);
        x.tick(1);
        Check.due("the output with a feed", 240, x.ofController(1, 2));
        Check.due("(30 less 40 less 200) times 1000", -210000, x.ofController(1, 1));
        HeatTrain y = plant();
        y.control(0, 0, 0, 30, 1);
        y.control(0, 0, 0, 99999, 1);
        y.tick(1);
        Check.due("a sum that follows is held", -10000000, y.ofController(1, 1));
        y.select(1);
        y.tick(1);
        Check.due("the greatest", 89999, y.ofController(1, 2));
        Check.due("a sum that follows is held above", 10000000, y.ofController(0, 1));
    }

    private static void selectsRefused() {
        HeatTrain x = plant();
        Check.refused("the unit -1", Check.INDEX, () -> x.select(-1) ? 1 : 0);
        Check.refused("the unit 3", Check.INDEX, () -> x.select(3) ? 1 : 0);
        Check.due("select of the unit 0", true, x.select(0));
        Check.due("and back", false, x.select(0));
    }

    private static void ticks() {
        HeatTrain x = plant();
        Check.refused("tick(0)", Check.ARGUMENT, () -> x.tick(0));
        Check.refused("tick(-1)", Check.ARGUMENT, () -> x.tick(-1));
        Check.refused("tick(51)", Check.ARGUMENT, () -> x.tick(51));
        Check.refused("tick of the most", Check.ARGUMENT, () -> x.tick(Integer.MAX_VALUE));
        Check.due("no tick has gone by", 0, x.now());
        Check.due("tick(1)", 1, x.tick(1));
        for (int i = 1; i < 6; i++) {
            Check.due("tick(50)", 50 * i + 1, x.tick(50));
        }
        Check.refused("above 300", Check.STATE, () -> x.tick(50));
        Check.due("the tick is as it was", 251, x.now());
        Check.due("to 300", 300, x.tick(49));
        Check.refused("at 300", Check.STATE, () -> x.tick(1));
        Check.refused("tick(51) at 300", Check.ARGUMENT, () -> x.tick(51));
        Check.due("300", 300, x.now());
    }

    private static void orderInATick() {
        HeatTrain x = plant();
        x.control(0, 700, 0, 30, 1);
        x.disturb(1, 1, 999);
        x.disturb(2, 0, 10);
        x.ratio(0, 100, 2);
        x.tick(1);
        Check.due("what drives comes after the disturbance", 30, x.of(2, 0));
        x.tick(1);
        Check.due("the source by the disturbance", 10, x.of(0, 0));
        Check.due("the station by the tick ahead", 100, x.ofUnit(2, 0));
        x.tick(1);
        Check.due("the station a tick later", 10, x.ofUnit(2, 0));
    }

    /** The second stream of a source is never warm, so that an error is the goal. */
    private static void alarmLimits() {
        HeatTrain x = plant();
        x.control(1, 500, 0, 0, 1);
        x.control(1, 501, 0, 0, 1);
        x.tick(1);
        Check.due("more than 500 only", 1, x.alarms());
        Check.due("of the second one", 1, x.quit());
        Check.due("none is left", HeatTrain.NONE, x.quit());
        Check.due("none", 0, x.alarms());
        HeatTrain y = plant();
        y.set(0, 1);
        y.control(0, 0, 0, 0, 1);
        y.aim(0, 0, 499);
        y.tick(1);
        Check.due("no error", 0, y.alarms());
        y.tick(1);
        Check.due("an error below 0", 1, y.alarms());
        y.tick(9);
        Check.due("is told once", 1, y.alarms());
    }

    private static void alarmsAgain() {
        HeatTrain x = plant();
        x.control(1, 600, 0, 0, 1);
        x.tick(1);
        x.aim(0, 500, 500);
        x.tick(1);
        x.aim(0, 600, 500);
        x.tick(1);
        Check.due("again after a tick without", 2, x.alarms());
        x.aim(0, 500, 500);
        x.aim(0, 900, 500);
        x.tick(1);
        Check.due("no tick between", 2, x.alarms());
        for (int i = 0; i < 20; i++) {
            x.aim(0, 0, 0);
            x.tick(1);
            x.aim(0, 1, 0);
            x.tick(1);
        }
        Check.due("many", 22, x.alarms());
        for (int i = 0; i < 22; i++) {
            Check.due("quit", 0, x.quit());
        }
        Check.due("no more", HeatTrain.NONE, x.quit());
    }

    private static void limitOfThen() {
        HeatTrain x = plant();
        x.control(1, 300, 0, 0, 1);
        x.tick(1);
        x.aim(0, 300, 200);
        x.tick(1);
        Check.due("within the limit of the tick ahead", 1, x.alarms());
        x.aim(0, 300, 400);
        x.tick(1);
        x.aim(0, 300, 200);
        x.tick(1);
        Check.due("within a wider limit, for a tick", 2, x.alarms());
        x.aim(0, 300, 100);
        x.tick(1);
        Check.due("above both limits", 2, x.alarms());
    }

    private static void alarmOrder() {
        HeatTrain x = plant();
        x.control(1, 0, 0, 0, 1);
        x.control(1, 700, 0, 0, 1);
        x.control(1, 600, 0, 0, 1);
        x.control(1, 700, 0, 0, 1);
        x.control(1, 510, 0, 0, 1);
        x.tick(1);
        x.aim(0, 800, 600);
        x.aim(4, 510, 0);
        x.tick(1);
        Check.due("five", 5, x.alarms());
        Check.due("the most, the earliest, the lowest", 1, x.quit());
        Check.due("the most, the earliest", 3, x.quit());
        Check.due("the most", 0, x.quit());
        x.control(1, 3000, 0, 0, 1);
        x.tick(1);
        Check.due("one that is more", 5, x.quit());
        Check.due("the next", 2, x.quit());
        Check.due("the least", 4, x.quit());
        Check.due("none", HeatTrain.NONE, x.quit());
    }

    /** A source without a flow is cold, so that the controller 0 turns it on and off by turns. */
    private static void mostAlarms() {
        HeatTrain x = new HeatTrain();
        x.source(0, 300);
        x.source(0, 0);
        x.control(0, 1499, 1, 0, 0);
        x.aim(0, 1499, 1500);
        for (int c = 1; c < 6; c++) {
            x.control(0, 0, 0, 0, 1);
        }
        for (int i = 0; i < 6; i++) {
            x.tick(50);
        }
        Check.due("an alarm of each in every second tick", 900, x.alarms());
        for (int i = 0; i < 480; i++) {
            Check.due("by ticks, and by controllers", 1 + i % 5, x.quit());
        }
        Check.due("those that are left", 420, x.alarms());
    }
}
