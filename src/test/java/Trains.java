/** Trains that several tests use, and all that a train answers, as one text. */
final class Trains {
    private static final int SPLIT = HeatTrain.SPLIT, MIX = HeatTrain.MIX;
    private static final int EXCHANGE = HeatTrain.EXCHANGE, COOLER = HeatTrain.COOLER;

    private Trains() {
    }

    /**
     * Units of every kind: the source 0 goes into a loop of the MIX 1, the SPLIT 2 and the COOLER 3, and the rest
     * of the SPLIT takes heat of the source 4 in the EXCHANGE 5. The streams 3, 7 and 9 stay empty.
     */
    static HeatTrain everyKind() {
        HeatTrain x = new HeatTrain();
        x.source(70, 33);
        x.unit(MIX, 3, 0, 7);
        x.unit(SPLIT, 2, 0, 37);
        x.unit(COOLER, 4, 0, 99);
        x.source(13, 290);
        x.unit(EXCHANGE, 8, 5, 17);
        x.back(1, 6);
        return x;
    }

    /** The same with a cascade (0 and 1), a ratio station (2), a controller with a feed (3) and disturbances. */
    static HeatTrain everything() {
        HeatTrain x = everyKind();
        x.control(11, 2400, 7, 100, 101);
        x.control(6, 300, -5, 60, 3);
        x.ratio(2, 150, 3);
        x.control(10, 900, 3, 20, 5);
        x.feed(3, 0, 40);
        x.disturb(3, 0, 90);
        x.disturb(25, 0, 80);
        x.disturb(24, 4, 5);
        return x;
    }

    /** Six sources of 999 and 300 degrees, together in the MIX 11, which takes its own stream too. */
    static HeatTrain gathering() {
        HeatTrain x = new HeatTrain();
        for (int u = 0; u < 6; u++) {
            x.source(999, 300);
        }
        x.unit(MIX, 0, 2, 0);
        for (int u = 7; u < 11; u++) {
            x.unit(MIX, 2 * u - 2, 2 * u - 10, 0);
        }
        x.unit(MIX, 20, 22, 0);
        return x;
    }

    /** The sources 0 (without a flow) and 1 go into the flow of the source 2, all of which the SPLIT 5 divides. */
    static HeatTrain twoSourcesInto(int flow, int warmth, int first, int secondFlow, int second, int hundredths) {
        HeatTrain x = new HeatTrain();
        x.source(0, first);
        x.source(secondFlow, second);
        x.source(flow, warmth);
        x.unit(MIX, 0, 2, 0);
        x.unit(MIX, 4, 6, 0);
        x.unit(SPLIT, 8, 0, hundredths);
        return x;
    }

    static void tickTo(HeatTrain x, int tick) {
        while (x.now() < tick) {
            x.tick(Math.min(50, tick - x.now()));
        }
    }

    static void due(String call, HeatTrain x, int stream, int flow, int heat) {
        Check.due(call + ", flow of the stream " + stream, flow, x.of(stream, 0));
        Check.due(call + ", heat of the stream " + stream, heat, x.of(stream, 1));
    }

    /** What everything() answers, in some 80 calls. */
    static String answers(HeatTrain x) {
        StringBuilder text = new StringBuilder();
        text.append("now ").append(x.now()).append(", balance ").append(x.balance());
        text.append(", alarms ").append(x.alarms());
        for (int s = 0; s < 12; s++) {
            text.append("\nstream ").append(s);
            for (int what = 0; what < 3; what++) {
                text.append(' ').append(x.of(s, what));
            }
            text.append(", trend ").append(x.now() == 0 ? 0 : x.trend(s, x.now()));
        }
        for (int u = 0; u < 6; u++) {
            text.append("\nunit ").append(u).append(' ').append(x.ofUnit(u, 0)).append(' ').append(x.ofUnit(u, 1));
        }
        for (int c = 0; c < 4; c++) {
            text.append("\ncontroller ").append(c);
            for (int what = 0; what < 4; what++) {
                text.append(' ').append(x.ofController(c, what));
            }
        }
        return text.toString();
    }

    /** The controllers of all alarms, which are taken away. */
    static String quits(HeatTrain x) {
        StringBuilder text = new StringBuilder("quits");
        for (int i = x.alarms(); i >= 0; i--) {
            text.append(' ').append(x.quit());
        }
        return text.toString();
    }
}
