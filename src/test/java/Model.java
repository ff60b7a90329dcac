import java.util.ArrayList;
import java.util.Arrays;
import java.util.List;

/** A second train, written anew from the document: one map of streams for each tick, nothing in place. */
final class Model {
    private static final int[] MOST = {999, 100, Integer.MIN_VALUE, 9999, 99999};

    private static final class Unit {
        int kind;
        int number;
        int degrees;
        List<Integer> takes = new ArrayList<>();
        boolean greatest;
        long moved;
    }

    private static final class Controller {
        boolean station;
        int stream;
        long goal;
        long factor;
        long base;
        int drives;
        int feedStream;
        long feedHundredths;
        long limit = 500;
        long sum;
        long fed;
        long output;
        long error;
        boolean over;
    }

    private record Alarm(long excess, int tick, int controller) {
    }

    private record Disturbance(int tick, int unit, int number) {
    }

    private final List<Unit> units = new ArrayList<>();
    private final List<Controller> controllers = new ArrayList<>();
    private final List<Alarm> alarms = new ArrayList<>();
    private final List<Disturbance> script = new ArrayList<>();
    private final List<long[][]> history = new ArrayList<>();
    private final List<Long> balances = new ArrayList<>();

    Model() {
        history.add(new long[24][2]);
        balances.add(0L);
    }

    int now() {
        return history.size() - 1;
    }

    private long[][] current() {
        return history.get(now());
    }

    private static long warmth(long[] stream) {
        return stream[0] == 0 ? 0 : stream[1] * 10 / stream[0];
    }

    private static long clamp(long v, long low, long high) {
        return v < low ? low : v > high ? high : v;
    }

    private static void index(boolean there) {
        if (!there) {
            throw new IndexOutOfBoundsException();
        }
    }

    private static void argument(boolean fits) {
        if (!fits) {
            throw new IllegalArgumentException();
        }
    }

    private static void state(boolean allowed) {
        if (!allowed) {
            throw new IllegalStateException();
        }
    }

    private boolean isUnit(int u) {
        return 0 <= u && u < units.size();
    }

    private boolean isStream(int s) {
        return 0 <= s && s < 2 * units.size();
    }

    private boolean isController(int c) {
        return 0 <= c && c < controllers.size();
    }

    private boolean fits(int kind, int number) {
        return kind != HeatTrain.MIX && 0 <= number && number <= MOST[kind];
    }

    private boolean taken(int stream) {
        for (Unit u : units) {
            if (u.takes.contains(stream)) {
                return true;
            }
        }
        return false;
    }

    int source(int flow, int warmth) {
        argument(flow >= 0 && flow <= 999 && warmth >= 0 && warmth <= 300);
        state(units.size() < 12 && now() == 0);
        Unit u = new Unit();
        u.number = flow;
        u.degrees = warmth;
        units.add(u);
        return units.size() - 1;
    }

    int unit(int kind, int first, int second, int number) {
        argument(kind >= 1 && kind <= 4);
        boolean two = kind == 2 || kind == 3;
        int streams = 2 * units.size() + 2;
        index(first >= 0 && first < streams && (!two || second >= 0 && second < streams));
        state(kind == 2 || fits(kind, number));
        state(!taken(first) && (!two || !taken(second) && first != second));
        state(units.size() < 12 && now() == 0);
        Unit u = new Unit();
        u.kind = kind;
        u.number = number;
        u.takes.add(first);
        if (two) {
            u.takes.add(second);
        }
        units.add(u);
        return units.size() - 1;
    }

    int back(int unit, int stream) {
        index(isUnit(unit) && isStream(stream));
        state(units.get(unit).kind != 0 && !taken(stream) && now() == 0);
        return units.get(unit).takes.set(0, stream);
    }

    int set(int unit, int number) {
        index(isUnit(unit));
        argument(fits(units.get(unit).kind, number));
        int before = units.get(unit).number;
        units.get(unit).number = number;
        return before;
    }

    int disturb(int tick, int unit, int number) {
        index(isUnit(unit));
        argument(tick > now() && tick <= 300 && fits(units.get(unit).kind, number));
        state(toCome() < 40);
        script.add(new Disturbance(tick, unit, number));
        return toCome();
    }

    private int toCome() {
        int left = 0;
        for (Disturbance d : script) {
            left += d.tick > now() ? 1 : 0;
        }
        return left;
    }

    int control(int stream, int goal, int gain, int base, int unit) {
        index(isStream(stream));
        index(isUnit(unit) || unit > 100 + controllers.size() && unit <= 105);
        argument(goal >= 0 && goal <= 3000 && gain >= -99 && gain <= 99 && base >= 0 && base <= 99999);
        argument(unit >= 100 || units.get(unit).kind != 2);
        state(controllers.size() < 6);
        Controller c = new Controller();
        c.stream = stream;
        c.goal = goal;
        c.factor = gain;
        c.base = base;
        c.drives = unit;
        controllers.add(c);
        return controllers.size() - 1;
    }

    int ratio(int stream, int hundredths, int unit) {
        index(isStream(stream) && isUnit(unit));
        argument(hundredths >= 0 && hundredths <= 999 && units.get(unit).kind != 2);
        state(controllers.size() < 6);
        Controller c = new Controller();
        c.station = true;
        c.stream = stream;
        c.factor = hundredths;
        c.drives = unit;
        controllers.add(c);
        return controllers.size() - 1;
    }

    void feed(int controller, int stream, int hundredths) {
        index(isController(controller) && isStream(stream));
        argument(hundredths >= -500 && hundredths <= 500);
        state(!controllers.get(controller).station);
        controllers.get(controller).feedStream = stream;
        controllers.get(controller).feedHundredths = hundredths;
    }

    int aim(int controller, int goal, int limit) {
        index(isController(controller));
        argument(goal >= 0 && goal <= 3000 && limit >= 0 && limit <= 3000);
        Controller c = controllers.get(controller);
        state(!c.station);
        int before = (int) c.goal;
        c.goal = goal;
        c.limit = limit;
        return before;
    }

    boolean select(int unit) {
        index(isUnit(unit));
        units.get(unit).greatest ^= true;
        return units.get(unit).greatest;
    }

    int tick(int ticks) {
        argument(ticks >= 1 && ticks <= 50);
        state(now() + ticks <= 300);
        for (int i = 0; i < ticks; i++) {
            one();
        }
        return now();
    }

    private void one() {
        int tick = now() + 1;
        long[][] ahead = current();
        for (Disturbance d : script) {
            if (d.tick == tick) {
                units.get(d.unit).number = d.number;
            }
        }
        for (int c = 0; c < controllers.size(); c++) {
            work(c, controllers.get(c), ahead, tick);
        }
        for (int u = 0; u < units.size(); u++) {
            drive(u, units.get(u));
        }
        int[] numbers = numbers();
        long[] moved = new long[12];
        long[][] next = step(ahead, numbers, moved);
        long balance = 0;
        for (int u = 0; u < units.size(); u++) {
            Unit unit = units.get(u);
            unit.moved = moved[u];
            balance += unit.kind == 0 ? (long) unit.number * unit.degrees : 0;
            balance -= unit.kind == 4 ? moved[u] : 0;
            for (int s : unit.takes) {
                balance -= s / 2 >= u ? next[s][1] - ahead[s][1] : 0;
            }
        }
        for (int s = 0; s < 24; s++) {
            balance -= taken(s) ? 0 : next[s][1];
        }
        history.add(next);
        balances.add(balance);
    }

    private void work(int at, Controller c, long[][] ahead, int tick) {
        if (c.station) {
            c.output = ahead[c.stream][0] * c.factor / 100;
            return;
        }
        c.error = c.goal - warmth(ahead[c.stream]);
        c.sum = clamp(c.sum + c.factor * c.error, -10000000, 10000000);
        c.fed = c.feedHundredths * (warmth(ahead[c.feedStream]) - 200) / 100;
        c.output = c.base + c.sum / 1000 + c.fed;
        boolean over = c.error > c.limit || -c.error > c.limit;
        if (over && !c.over) {
            alarms.add(new Alarm((c.error < 0 ? -c.error : c.error) - c.limit, tick, at));
        }
        c.over = over;
        if (c.drives >= 100 && isController(c.drives - 100) && !controllers.get(c.drives - 100).station) {
            controllers.get(c.drives - 100).goal = clamp(c.output, 0, 3000);
        }
    }

    private void drive(int at, Unit unit) {
        List<Controller> drivers = new ArrayList<>();
        for (Controller c : controllers) {
            if (c.drives == at) {
                drivers.add(c);
            }
        }
        if (drivers.isEmpty()) {
            return;
        }
        long[] outputs = new long[drivers.size()];
        for (int i = 0; i < outputs.length; i++) {
            outputs[i] = drivers.get(i).output;
        }
        Arrays.sort(outputs);
        long taken = unit.greatest ? outputs[outputs.length - 1] : outputs[0];
        for (Controller c : drivers) {
            if (!c.station && c.output != taken) {
                c.sum = clamp(1000 * (taken - c.base - c.fed), -10000000, 10000000);
            }
        }
        unit.number = (int) clamp(taken, 0, MOST[unit.kind]);
    }

    private int[] numbers() {
        int[] numbers = new int[12];
        for (int u = 0; u < units.size(); u++) {
            numbers[u] = units.get(u).number;
        }
        return numbers;
    }

    private long[][] step(long[][] ahead, int[] numbers, long[] moved) {
        long[][] next = new long[24][2];
        for (int u = 0; u < units.size(); u++) {
            Unit unit = units.get(u);
            long n = numbers[u];
            List<long[]> in = new ArrayList<>();
            for (int s : unit.takes) {
                in.add(s / 2 < u ? next[s] : ahead[s]);
            }
            long[] first = next[2 * u];
            long[] second = next[2 * u + 1];
            if (unit.kind == HeatTrain.SOURCE) {
                first[0] = n;
                first[1] = n * unit.degrees;
            } else if (unit.kind == HeatTrain.SPLIT) {
                first[0] = in.get(0)[0] * n / 100;
                first[1] = in.get(0)[0] == 0 ? 0 : in.get(0)[1] * first[0] / in.get(0)[0];
                second[0] = in.get(0)[0] - first[0];
                second[1] = in.get(0)[1] - first[1];
            } else if (unit.kind == HeatTrain.MIX) {
                first[0] = in.get(0)[0] + in.get(1)[0];
                first[1] = in.get(0)[1] + in.get(1)[1];
            } else if (unit.kind == HeatTrain.EXCHANGE) {
                long[] hot = in.get(0);
                long[] cold = in.get(1);
                long c = hot[0] < cold[0] ? hot[0] : cold[0];
                long move = n + c == 0 ? 0 : n * c * (warmth(hot) - warmth(cold)) / (10 * (n + c));
                move = move > hot[1] ? hot[1] : -move > cold[1] ? -cold[1] : move;
                first[0] = hot[0];
                first[1] = hot[1] - move;
                second[0] = cold[0];
                second[1] = cold[1] + move;
                moved[u] = move;
            } else {
                moved[u] = n > in.get(0)[1] ? in.get(0)[1] : n;
                first[0] = in.get(0)[0];
                first[1] = in.get(0)[1] - moved[u];
            }
        }
        return next;
    }

    int quit() {
        Alarm first = null;
        for (Alarm a : alarms) {
            if (first == null || goesAhead(a, first)) {
                first = a;
            }
        }
        alarms.remove(first);
        return first == null ? -1 : first.controller;
    }

    private static boolean goesAhead(Alarm a, Alarm b) {
        if (a.excess != b.excess) {
            return a.excess > b.excess;
        }
        return a.tick != b.tick ? a.tick < b.tick : a.controller < b.controller;
    }

    int of(int stream, int what) {
        index(isStream(stream));
        argument(what >= 0 && what <= 2);
        long[] s = current()[stream];
        return (int) (what == 2 ? warmth(s) : s[what]);
    }

    int ofUnit(int unit, int what) {
        index(isUnit(unit));
        argument(what >= 0 && what <= 1);
        return (int) (what == 0 ? units.get(unit).number : units.get(unit).moved);
    }

    int ofController(int controller, int what) {
        index(isController(controller));
        argument(what >= 0 && what <= 3);
        Controller c = controllers.get(controller);
        if (c.station && what != 2) {
            return 0;
        }
        return (int) (what == 0 ? c.goal : what == 1 ? c.sum : what == 2 ? c.output : c.error);
    }

    int trend(int stream, int tick) {
        index(isStream(stream) && tick >= 1 && tick <= now());
        return (int) warmth(history.get(tick)[stream]);
    }

    int balance() {
        return (int) (long) balances.get(now());
    }

    int alarms() {
        return alarms.size();
    }

    private long gainOf(int unit, int stream) {
        int[] changed = numbers();
        if (changed[unit] < MOST[units.get(unit).kind]) {
            changed[unit]++;
        }
        long[][] plain = current();
        long[][] other = current();
        for (int i = 0; i < 12; i++) {
            plain = step(plain, numbers(), new long[12]);
            other = step(other, changed, new long[12]);
        }
        return warmth(other[stream]) - warmth(plain[stream]);
    }

    int gain(int unit, int stream) {
        index(isUnit(unit) && isStream(stream));
        return (int) gainOf(unit, stream);
    }

    int relative(int unit, int other, int stream, int second) {
        index(isUnit(unit) && isUnit(other) && isStream(stream) && isStream(second));
        long ad = gainOf(unit, stream) * gainOf(other, second);
        long bc = gainOf(unit, second) * gainOf(other, stream);
        return ad == bc ? HeatTrain.NO_GAIN : (int) (100 * ad / (ad - bc));
    }
}
