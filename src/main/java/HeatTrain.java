/** A train of heat exchangers and its controllers, as ../shared/DOC.md promises it. */
public final class HeatTrain {
    public static final int NONE = -1;
    public static final int NO_GAIN = -100000;
    public static final int SOURCE = 0, SPLIT = 1, MIX = 2, EXCHANGE = 3, COOLER = 4;

    private static final int MOST_UNITS = 12;
    private static final int MOST_STREAMS = 2 * MOST_UNITS;
    private static final int MOST_CONTROLLERS = 6;
    private static final int MOST_TO_COME = 40;
    private static final int MOST_TICKS = 300;
    private static final int MOST_TICKS_AT_ONCE = 50;
    private static final int TICKS_OF_A_GAIN = 12;

    private static final int MOST_FLOW = 999;
    private static final int MOST_DEGREES = 300;
    private static final int MOST_HUNDREDTHS_OF_A_SPLIT = 100;
    private static final int MOST_TRANSFER = 9999;
    private static final int MOST_COOLING = 99999;

    private static final int MOST_TENTHS = 3000;
    private static final int MOST_GAIN = 99;
    private static final int MOST_BASE = 99999;
    private static final int MOST_SUM = 10000000;
    private static final int SUM_OF_ONE = 1000;
    private static final int MOST_RATIO = 999;
    private static final int MOST_FEED = 500;
    private static final int FEED_STARTS_AT = 200;
    private static final int LIMIT_AT_FIRST = 500;
    private static final int FIRST_GOAL = 100;

    private final Streams streams;
    private final Streams trial;
    private final Units units;
    private final Controllers controllers;
    private final Alarms raised;
    private final Script script;
    private final Trends trends;
    private int ticksGone;
    private long heldOverAhead;

    public HeatTrain() {
        streams = new Streams();
        trial = new Streams();
        units = new Units();
        controllers = new Controllers();
        raised = new Alarms();
        script = new Script();
        trends = new Trends();
        ticksGone = 0;
        heldOverAhead = 0;
    }

    // ---- units

    public int source(int flow, int warmth) throws IllegalArgumentException, IllegalStateException {
        if (isOutside(flow, 0, MOST_FLOW) || isOutside(warmth, 0, MOST_DEGREES)) {
            throw new IllegalArgumentException("flow or warmth is out of range");
        }
        needRoomForUnit();
        return units.addSource(flow, warmth);
    }

    public int unit(int kind, int first, int second, int number)
            throws IllegalArgumentException, IndexOutOfBoundsException, IllegalStateException {
        if (isOutside(kind, SPLIT, COOLER)) {
            throw new IllegalArgumentException("kind is out of range");
        }
        boolean takesTwo = kind == MIX || kind == EXCHANGE;
        needStreamForNewUnit(first);
        if (takesTwo) {
            needStreamForNewUnit(second);
        }
        if (kind != MIX && !isNumberOf(kind, number)) {
            throw new IllegalStateException("number is not in the range of its kind");
        }
        needFreeStream(first);
        if (takesTwo) {
            needFreeStream(second);
            if (first == second) {
                throw new IllegalStateException("the stream would be taken twice");
            }
        }
        needRoomForUnit();
        return units.addTaker(kind, first, takesTwo ? second : NONE, number);
    }

    public int back(int unit, int stream) throws IndexOutOfBoundsException, IllegalStateException {
        needUnit(unit);
        needStream(stream);
        if (units.kindOf(unit) == SOURCE) {
            throw new IllegalStateException("a source takes no stream");
        }
        needFreeStream(stream);
        needNoTickGone();
        return units.takeInstead(unit, stream);
    }

    public int set(int unit, int number) throws IndexOutOfBoundsException, IllegalArgumentException {
        needUnit(unit);
        needNumberOf(unit, number);
        int before = units.numberOf(unit);
        units.putNumber(unit, number);
        return before;
    }

    public int disturb(int tick, int unit, int number)
            throws IndexOutOfBoundsException, IllegalArgumentException, IllegalStateException {
        needUnit(unit);
        if (isOutside(tick, ticksGone + 1, MOST_TICKS)) {
            throw new IllegalArgumentException("tick is not a later one, to 300");
        }
        needNumberOf(unit, number);
        if (script.toCome() >= MOST_TO_COME) {
            throw new IllegalStateException("40 disturbances are to come");
        }
        script.add(tick, unit, number);
        return script.toCome();
    }

    // ---- controllers

    public int control(int stream, int goal, int gain, int base, int unit)
            throws IndexOutOfBoundsException, IllegalArgumentException, IllegalStateException {
        needStream(stream);
        if (unit < FIRST_GOAL) {
            needUnit(unit);
        } else {
            needHigherController(unit - FIRST_GOAL);
        }
        if (isOutside(goal, 0, MOST_TENTHS) || isOutside(gain, -MOST_GAIN, MOST_GAIN)
                || isOutside(base, 0, MOST_BASE)) {
            throw new IllegalArgumentException("goal, gain or base is out of range");
        }
        needNoMix(unit);
        needRoomForController();
        return controllers.addMeasuring(stream, goal, gain, base, unit);
    }

    public int ratio(int stream, int hundredths, int unit)
            throws IndexOutOfBoundsException, IllegalArgumentException, IllegalStateException {
        needStream(stream);
        needUnit(unit);
        if (isOutside(hundredths, 0, MOST_RATIO)) {
            throw new IllegalArgumentException("hundredths is out of range");
        }
        needNoMix(unit);
        needRoomForController();
        return controllers.addRatio(stream, hundredths, unit);
    }

    public void feed(int controller, int stream, int hundredths)
            throws IndexOutOfBoundsException, IllegalArgumentException, IllegalStateException {
        needController(controller);
        needStream(stream);
        if (isOutside(hundredths, -MOST_FEED, MOST_FEED)) {
            throw new IllegalArgumentException("hundredths is out of range");
        }
        needMeasuring(controller);
        controllers.putFeed(controller, stream, hundredths);
    }

    public int aim(int controller, int goal, int limit)
            throws IndexOutOfBoundsException, IllegalArgumentException, IllegalStateException {
        needController(controller);
        if (isOutside(goal, 0, MOST_TENTHS) || isOutside(limit, 0, MOST_TENTHS)) {
            throw new IllegalArgumentException("goal or limit is out of range");
        }
        needMeasuring(controller);
        return controllers.aimAt(controller, goal, limit);
    }

    public boolean select(int unit) throws IndexOutOfBoundsException {
        needUnit(unit);
        return units.turnChoice(unit);
    }

    public int tick(int ticks) throws IllegalArgumentException, IllegalStateException {
        if (isOutside(ticks, 1, MOST_TICKS_AT_ONCE)) {
            throw new IllegalArgumentException("ticks is out of range");
        }
        if (ticksGone + ticks > MOST_TICKS) {
            throw new IllegalStateException("it would be above the tick 300");
        }
        for (int i = 0; i < ticks; i++) {
            letOneTickGoBy();
        }
        return ticksGone;
    }

    public int quit() {
        return raised.takeFirst();
    }

    // ---- what is asked

    public int of(int stream, int what) throws IndexOutOfBoundsException, IllegalArgumentException {
        needStream(stream);
        switch (what) {
            case 0:
                return (int) streams.flowOf(stream);
            case 1:
                return (int) streams.heatOf(stream);
            case 2:
                return (int) streams.warmthOf(stream);
            default:
                throw new IllegalArgumentException("what is out of range");
        }
    }

    public int ofUnit(int unit, int what) throws IndexOutOfBoundsException, IllegalArgumentException {
        needUnit(unit);
        switch (what) {
            case 0:
                return units.numberOf(unit);
            case 1:
                return (int) units.movedBy(unit);
            default:
                throw new IllegalArgumentException("what is out of range");
        }
    }

    public int ofController(int controller, int what) throws IndexOutOfBoundsException, IllegalArgumentException {
        needController(controller);
        switch (what) {
            case 0:
                return (int) controllers.goalOf(controller);
            case 1:
                return (int) controllers.sumOf(controller);
            case 2:
                return (int) controllers.outputOf(controller);
            case 3:
                return (int) controllers.errorOf(controller);
            default:
                throw new IllegalArgumentException("what is out of range");
        }
    }

    public int trend(int stream, int tick) throws IndexOutOfBoundsException {
        needStream(stream);
        if (isOutside(tick, 1, ticksGone)) {
            throw new IndexOutOfBoundsException("there is no such tick");
        }
        return trends.warmthAt(stream, tick);
    }

    public int balance() {
        long heldOverMore = units.heatHeldOver(streams) - heldOverAhead;
        return (int) (units.heatMade(streams) - units.heatUntaken(streams) - units.heatCooledAway() - heldOverMore);
    }

    public int alarms() {
        return raised.count();
    }

    public int gain(int unit, int stream) throws IndexOutOfBoundsException {
        needUnit(unit);
        needStream(stream);
        return (int) gainOf(unit, stream);
    }

    public int relative(int unit, int other, int stream, int second) throws IndexOutOfBoundsException {
        needUnit(unit);
        needUnit(other);
        needStream(stream);
        needStream(second);
        long straight = gainOf(unit, stream) * gainOf(other, second);
        long crossed = gainOf(unit, second) * gainOf(other, stream);
        long divisor = straight - crossed;
        return divisor == 0 ? NO_GAIN : (int) (100 * straight / divisor);
    }

    public int now() {
        return ticksGone;
    }

    // ---- what calls need

    private void needUnit(int unit) {
        if (isOutside(unit, 0, units.count() - 1)) {
            throw new IndexOutOfBoundsException("there is no such unit");
        }
    }

    private void needStream(int stream) {
        if (isOutside(stream, 0, 2 * units.count() - 1)) {
            throw new IndexOutOfBoundsException("there is no such stream");
        }
    }

    private void needStreamForNewUnit(int stream) {
        if (isOutside(stream, 0, 2 * units.count() + 1)) {
            throw new IndexOutOfBoundsException("there is no such stream for the new unit");
        }
    }

    private void needFreeStream(int stream) {
        if (units.isTaken(stream)) {
            throw new IllegalStateException("the stream is taken already");
        }
    }

    private void needRoomForUnit() {
        if (units.count() >= MOST_UNITS) {
            throw new IllegalStateException("there are 12 units");
        }
        needNoTickGone();
    }

    private void needNoTickGone() {
        if (ticksGone > 0) {
            throw new IllegalStateException("a tick has gone by");
        }
    }

    private void needNumberOf(int unit, int number) {
        if (!isNumberOf(units.kindOf(unit), number)) {
            throw new IllegalArgumentException("number is not in the range of its kind");
        }
    }

    private void needController(int controller) {
        if (isOutside(controller, 0, controllers.count() - 1)) {
            throw new IndexOutOfBoundsException("there is no such controller");
        }
    }

    private void needHigherController(int controller) {
        if (isOutside(controller, controllers.count() + 1, MOST_CONTROLLERS - 1)) {
            throw new IndexOutOfBoundsException("the controller is above 5, or not higher");
        }
    }

    private void needMeasuring(int controller) {
        if (!controllers.isMeasuring(controller)) {
            throw new IllegalStateException("it is a ratio station");
        }
    }

    private void needNoMix(int unit) {
        if (units.kindOf(unit) == MIX) {
            throw new IllegalArgumentException("a MIX can't be driven");
        }
    }

    private void needRoomForController() {
        if (controllers.count() >= MOST_CONTROLLERS) {
            throw new IllegalStateException("there are 6 controllers");
        }
    }

    // ---- ticks and gains

    private void letOneTickGoBy() {
        ticksGone++;
        heldOverAhead = units.heatHeldOver(streams);
        script.playInto(units, ticksGone);
        controllers.work(streams, raised);
        setDrivenUnits();
        units.giveAll(streams);
        trends.keep(streams, ticksGone);
    }

    private void setDrivenUnits() {
        for (int u = 0; u < units.count(); u++) {
            int chosen = controllers.chosenFor(u, units.takesGreatest(u));
            if (chosen != NONE) {
                long taken = controllers.outputOf(chosen);
                controllers.letFollow(u, taken);
                units.putNumber(u, (int) held(taken, 0, mostOf(units.kindOf(u))));
            }
        }
    }

    private long gainOf(int unit, int stream) {
        int number = units.numberOf(unit);
        int oneMore = number < mostOf(units.kindOf(unit)) ? number + 1 : number;
        return warmthLater(stream, unit, oneMore) - warmthLater(stream, unit, number);
    }

    private long warmthLater(int stream, int unit, int number) {
        trial.copyFrom(streams);
        for (int i = 0; i < TICKS_OF_A_GAIN; i++) {
            for (int u = 0; u < units.count(); u++) {
                units.give(trial, u, u == unit ? number : units.numberOf(u));
            }
        }
        return trial.warmthOf(stream);
    }

    // ---- ranges

    private static boolean isOutside(int value, int least, int most) {
        return value < least || value > most;
    }

    private static long held(long value, long least, long most) {
        if (value < least) {
            return least;
        }
        return value > most ? most : value;
    }

    /** The greatest number of a kind; below 0 for a MIX, so that no number is in its range. */
    private static int mostOf(int kind) {
        switch (kind) {
            case SOURCE:
                return MOST_FLOW;
            case SPLIT:
                return MOST_HUNDREDTHS_OF_A_SPLIT;
            case EXCHANGE:
                return MOST_TRANSFER;
            case COOLER:
                return MOST_COOLING;
            default:
                return -1;
        }
    }

    private static boolean isNumberOf(int kind, int number) {
        return !isOutside(number, 0, mostOf(kind));
    }

    /** Flow and heat of every stream; one that is not there is empty. */
    private static final class Streams {
        private final long[] flow;
        private final long[] heat;

        Streams() {
            flow = new long[MOST_STREAMS];
            heat = new long[MOST_STREAMS];
        }

        static boolean isThere(int stream) {
            return stream >= 0 && stream < MOST_STREAMS;
        }

        long flowOf(int stream) {
            return isThere(stream) ? flow[stream] : 0;
        }

        long heatOf(int stream) {
            return isThere(stream) ? heat[stream] : 0;
        }

        long warmthOf(int stream) {
            if (!isThere(stream) || flow[stream] == 0) {
                return 0;
            }
            return 10 * heat[stream] / flow[stream];
        }

        void fill(int stream, long newFlow, long newHeat) {
            if (isThere(stream)) {
                flow[stream] = newFlow;
                heat[stream] = newHeat;
            }
        }

        void copyFrom(Streams other) {
            for (int s = 0; s < MOST_STREAMS; s++) {
                flow[s] = other.flow[s];
                heat[s] = other.heat[s];
            }
        }
    }

    /** The units, a row for each thing that is known of them, and which of them takes each stream. */
    private static final class Units {
        private int made;
        private final int[] kind;
        private final int[] degrees;
        private final int[] number;
        private final int[] first;
        private final int[] second;
        private final int[] taker;
        private final long[] moved;
        private final boolean[] greatest;

        Units() {
            made = 0;
            kind = new int[MOST_UNITS];
            degrees = new int[MOST_UNITS];
            number = new int[MOST_UNITS];
            first = new int[MOST_UNITS];
            second = new int[MOST_UNITS];
            moved = new long[MOST_UNITS];
            greatest = new boolean[MOST_UNITS];
            taker = new int[MOST_STREAMS];
            for (int s = 0; s < MOST_STREAMS; s++) {
                taker[s] = NONE;
            }
        }

        int count() {
            return made;
        }

        private boolean isMade(int u) {
            return u >= 0 && u < made && u < MOST_UNITS;
        }

        int addSource(int flow, int warmth) {
            return add(SOURCE, flow, warmth, NONE, NONE);
        }

        int addTaker(int newKind, int newFirst, int newSecond, int newNumber) {
            int u = add(newKind, newNumber, 0, newFirst, newSecond);
            putTaker(newFirst, u);
            putTaker(newSecond, u);
            return u;
        }

        private int add(int newKind, int newNumber, int newDegrees, int newFirst, int newSecond) {
            if (made >= MOST_UNITS) {
                return NONE;
            }
            int u = made;
            made++;
            kind[u] = newKind;
            number[u] = newNumber;
            degrees[u] = newDegrees;
            first[u] = newFirst;
            second[u] = newSecond;
            return u;
        }

        int takeInstead(int u, int stream) {
            if (!isMade(u)) {
                return NONE;
            }
            int before = first[u];
            putTaker(before, NONE);
            putTaker(stream, u);
            first[u] = stream;
            return before;
        }

        private void putTaker(int stream, int u) {
            if (Streams.isThere(stream)) {
                taker[stream] = u;
            }
        }

        boolean isTaken(int stream) {
            return Streams.isThere(stream) && taker[stream] != NONE;
        }

        int kindOf(int u) {
            return isMade(u) ? kind[u] : NONE;
        }

        int numberOf(int u) {
            return isMade(u) ? number[u] : 0;
        }

        void putNumber(int u, int newNumber) {
            if (isMade(u)) {
                number[u] = newNumber;
            }
        }

        long movedBy(int u) {
            return isMade(u) ? moved[u] : 0;
        }

        boolean takesGreatest(int u) {
            return isMade(u) && greatest[u];
        }

        boolean turnChoice(int u) {
            if (isMade(u)) {
                greatest[u] = !greatest[u];
            }
            return takesGreatest(u);
        }

        void giveAll(Streams streams) {
            for (int u = 0; u < made && u < MOST_UNITS; u++) {
                moved[u] = give(streams, u, number[u]);
            }
        }

        /**
         * Lets a unit give its streams by a number, and tells what it moved. Units give by rising numbers
         * into the same rows that they take from: what a lower unit gave is of this tick then, what the
         * unit itself or a higher one gave still of the tick ahead.
         */
        long give(Streams streams, int u, int by) {
            if (!isMade(u)) {
                return 0;
            }
            switch (kind[u]) {
                case SOURCE:
                    streams.fill(2 * u, by, (long) by * degrees[u]);
                    return 0;
                case SPLIT:
                    split(streams, u, by);
                    return 0;
                case MIX:
                    mix(streams, u);
                    return 0;
                case EXCHANGE:
                    return exchange(streams, u, by);
                case COOLER:
                    return cool(streams, u, by);
                default:
                    return 0;
            }
        }

        private void split(Streams streams, int u, int hundredths) {
            long flow = streams.flowOf(first[u]);
            long heat = streams.heatOf(first[u]);
            long firstFlow = flow * hundredths / 100;
            long firstHeat = flow == 0 ? 0 : heat * firstFlow / flow;
            streams.fill(2 * u, firstFlow, firstHeat);
            streams.fill(2 * u + 1, flow - firstFlow, heat - firstHeat);
        }

        private void mix(Streams streams, int u) {
            long flow = streams.flowOf(first[u]) + streams.flowOf(second[u]);
            long heat = streams.heatOf(first[u]) + streams.heatOf(second[u]);
            streams.fill(2 * u, flow, heat);
        }

        private long exchange(Streams streams, int u, int transfer) {
            int hot = first[u];
            int cold = second[u];
            long hotFlow = streams.flowOf(hot);
            long hotHeat = streams.heatOf(hot);
            long coldFlow = streams.flowOf(cold);
            long coldHeat = streams.heatOf(cold);
            long warmer = streams.warmthOf(hot) - streams.warmthOf(cold);
            long wanted = transferred(transfer, Math.min(hotFlow, coldFlow), warmer);
            long heat = held(wanted, -coldHeat, hotHeat);
            streams.fill(2 * u, hotFlow, hotHeat - heat);
            streams.fill(2 * u + 1, coldFlow, coldHeat + heat);
            return heat;
        }

        private static long transferred(long transfer, long flow, long warmer) {
            long both = transfer + flow;
            return both == 0 ? 0 : transfer * flow * warmer / (10 * both);
        }

        private long cool(Streams streams, int u, int most) {
            long flow = streams.flowOf(first[u]);
            long heat = streams.heatOf(first[u]);
            long away = Math.min(heat, most);
            streams.fill(2 * u, flow, heat - away);
            return away;
        }

        long heatMade(Streams streams) {
            long heat = 0;
            for (int u = 0; u < made && u < MOST_UNITS; u++) {
                heat += kind[u] == SOURCE ? streams.heatOf(2 * u) : 0;
            }
            return heat;
        }

        long heatCooledAway() {
            long heat = 0;
            for (int u = 0; u < made && u < MOST_UNITS; u++) {
                heat += kind[u] == COOLER ? moved[u] : 0;
            }
            return heat;
        }

        long heatUntaken(Streams streams) {
            long heat = 0;
            for (int s = 0; s < MOST_STREAMS; s++) {
                heat += taker[s] == NONE ? streams.heatOf(s) : 0;
            }
            return heat;
        }

        /** The heat of streams that are taken in the next tick only: by their own unit or a lower one. */
        long heatHeldOver(Streams streams) {
            long heat = 0;
            for (int s = 0; s < MOST_STREAMS; s++) {
                heat += taker[s] != NONE && taker[s] <= s / 2 ? streams.heatOf(s) : 0;
            }
            return heat;
        }
    }

    /** The controllers and ratio stations, a row for each thing that is known of them. */
    private static final class Controllers {
        private int made;
        private final boolean[] measuring;
        private final int[] stream;
        private final int[] factor;
        private final int[] base;
        private final int[] driven;
        private final int[] feedStream;
        private final int[] feedHundredths;
        private final int[] limit;
        private final boolean[] over;
        private final long[] goal;
        private final long[] sum;
        private final long[] fed;
        private final long[] output;
        private final long[] error;

        Controllers() {
            made = 0;
            measuring = new boolean[MOST_CONTROLLERS];
            stream = new int[MOST_CONTROLLERS];
            factor = new int[MOST_CONTROLLERS];
            base = new int[MOST_CONTROLLERS];
            driven = new int[MOST_CONTROLLERS];
            feedStream = new int[MOST_CONTROLLERS];
            feedHundredths = new int[MOST_CONTROLLERS];
            limit = new int[MOST_CONTROLLERS];
            over = new boolean[MOST_CONTROLLERS];
            goal = new long[MOST_CONTROLLERS];
            sum = new long[MOST_CONTROLLERS];
            fed = new long[MOST_CONTROLLERS];
            output = new long[MOST_CONTROLLERS];
            error = new long[MOST_CONTROLLERS];
        }

        int count() {
            return made;
        }

        private boolean isMade(int c) {
            return c >= 0 && c < made && c < MOST_CONTROLLERS;
        }

        int addMeasuring(int newStream, int newGoal, int gainFactor, int newBase, int newDriven) {
            int c = add(newStream, gainFactor, newDriven);
            if (isMade(c)) {
                measuring[c] = true;
                goal[c] = newGoal;
                base[c] = newBase;
                limit[c] = LIMIT_AT_FIRST;
            }
            return c;
        }

        int addRatio(int newStream, int hundredths, int newDriven) {
            return add(newStream, hundredths, newDriven);
        }

        private int add(int newStream, int newFactor, int newDriven) {
            if (made >= MOST_CONTROLLERS) {
                return NONE;
            }
            int c = made;
            made++;
            stream[c] = newStream;
            factor[c] = newFactor;
            driven[c] = newDriven;
            feedStream[c] = NONE;
            return c;
        }

        boolean isMeasuring(int c) {
            return isMade(c) && measuring[c];
        }

        void putFeed(int c, int newStream, int hundredths) {
            if (isMade(c)) {
                feedStream[c] = newStream;
                feedHundredths[c] = hundredths;
            }
        }

        int aimAt(int c, int newGoal, int newLimit) {
            int before = (int) goalOf(c);
            if (isMade(c)) {
                goal[c] = newGoal;
                limit[c] = newLimit;
            }
            return before;
        }

        long goalOf(int c) {
            return isMade(c) ? goal[c] : 0;
        }

        long sumOf(int c) {
            return isMade(c) ? sum[c] : 0;
        }

        long outputOf(int c) {
            return isMade(c) ? output[c] : 0;
        }

        long errorOf(int c) {
            return isMade(c) ? error[c] : 0;
        }

        /** By rising numbers, since an output may be the goal of a higher controller in the same tick. */
        void work(Streams ahead, Alarms alarms) {
            for (int c = 0; c < made && c < MOST_CONTROLLERS; c++) {
                if (measuring[c]) {
                    measure(c, ahead);
                    watch(c, alarms);
                    passOn(c);
                } else {
                    output[c] = ahead.flowOf(stream[c]) * factor[c] / 100;
                }
            }
        }

        private void measure(int c, Streams ahead) {
            error[c] = goal[c] - ahead.warmthOf(stream[c]);
            sum[c] = heldSum(sum[c] + factor[c] * error[c]);
            fed[c] = feedHundredths[c] * (ahead.warmthOf(feedStream[c]) - FEED_STARTS_AT) / 100;
            output[c] = base[c] + sum[c] / SUM_OF_ONE + fed[c];
        }

        private void watch(int c, Alarms alarms) {
            long excess = Math.abs(error[c]) - limit[c];
            boolean wasOver = over[c];
            over[c] = excess > 0;
            if (over[c] && !wasOver) {
                alarms.put(c, excess);
            }
        }

        private void passOn(int c) {
            int higher = driven[c] - FIRST_GOAL;
            if (isMeasuring(higher)) {
                goal[higher] = held(output[c], 0, MOST_TENTHS);
            }
        }

        /** The one whose output a unit takes; NONE, if nothing drives it. */
        int chosenFor(int unit, boolean greatest) {
            int chosen = NONE;
            for (int c = 0; c < made && c < MOST_CONTROLLERS; c++) {
                if (driven[c] == unit && (!isMade(chosen) || goesAhead(output[c], output[chosen], greatest))) {
                    chosen = c;
                }
            }
            return chosen;
        }

        private static boolean goesAhead(long one, long other, boolean greatest) {
            return greatest ? one > other : one < other;
        }

        /** Resets those that were not taken, so that none of them winds up meanwhile. */
        void letFollow(int unit, long taken) {
            for (int c = 0; c < made && c < MOST_CONTROLLERS; c++) {
                if (driven[c] == unit && measuring[c] && output[c] != taken) {
                    sum[c] = heldSum((taken - base[c] - fed[c]) * SUM_OF_ONE);
                }
            }
        }

        private static long heldSum(long value) {
            return held(value, -MOST_SUM, MOST_SUM);
        }
    }

    /** The alarms, in the order in which they were put: by ticks, and in a tick by controllers. */
    private static final class Alarms {
        /** A controller's alarms are at least two ticks apart: its error must be within its limit between. */
        private static final int MOST_ALARMS = MOST_CONTROLLERS * MOST_TICKS / 2;

        private int there;
        private final int[] controller;
        private final long[] excess;

        Alarms() {
            there = 0;
            controller = new int[MOST_ALARMS];
            excess = new long[MOST_ALARMS];
        }

        int count() {
            return there;
        }

        void put(int newController, long newExcess) {
            if (there < MOST_ALARMS) {
                controller[there] = newController;
                excess[there] = newExcess;
                there++;
            }
        }

        int takeFirst() {
            int told = toldFirst();
            if (told < 0 || told >= there || told >= MOST_ALARMS) {
                return NONE;
            }
            int alarmed = controller[told];
            for (int i = told; i + 1 < there && i + 1 < MOST_ALARMS; i++) {
                controller[i] = controller[i + 1];
                excess[i] = excess[i + 1];
            }
            there--;
            return alarmed;
        }

        /** The first in the rows of those with the most, since the rows are in order already. */
        private int toldFirst() {
            int told = NONE;
            long most = 0;
            for (int i = 0; i < there && i < MOST_ALARMS; i++) {
                if (excess[i] > most) {
                    told = i;
                    most = excess[i];
                }
            }
            return told;
        }
    }

    /** The disturbances that are to come, in the order in which they were told. */
    private static final class Script {
        private int there;
        private final int[] tick;
        private final int[] unit;
        private final int[] number;

        Script() {
            there = 0;
            tick = new int[MOST_TO_COME];
            unit = new int[MOST_TO_COME];
            number = new int[MOST_TO_COME];
        }

        int toCome() {
            return there;
        }

        void add(int newTick, int newUnit, int newNumber) {
            if (there < MOST_TO_COME) {
                write(there, newTick, newUnit, newNumber);
                there++;
            }
        }

        private void write(int i, int newTick, int newUnit, int newNumber) {
            if (i >= 0 && i < MOST_TO_COME) {
                tick[i] = newTick;
                unit[i] = newUnit;
                number[i] = newNumber;
            }
        }

        /** Those of this tick come and go; the others move up and keep their order. */
        void playInto(Units units, int thisTick) {
            int left = 0;
            for (int i = 0; i < there && i < MOST_TO_COME; i++) {
                if (tick[i] == thisTick) {
                    units.putNumber(unit[i], number[i]);
                } else {
                    write(left, tick[i], unit[i], number[i]);
                    left++;
                }
            }
            there = left;
        }
    }

    /** The warmth of all streams in each tick that has gone by. */
    private static final class Trends {
        private int[] warmth;

        Trends() {
            warmth = new int[0];
        }

        /** The row is the train's largest by far: it is made in the first tick, and not for a train without one. */
        void keep(Streams streams, int tick) {
            if (warmth.length == 0) {
                warmth = new int[MOST_STREAMS * MOST_TICKS];
            }
            for (int s = 0; s < MOST_STREAMS; s++) {
                int place = placeOf(s, tick);
                if (isKept(place)) {
                    warmth[place] = (int) streams.warmthOf(s);
                }
            }
        }

        int warmthAt(int stream, int tick) {
            int place = placeOf(stream, tick);
            return isKept(place) ? warmth[place] : 0;
        }

        private static int placeOf(int stream, int tick) {
            return (tick - 1) * MOST_STREAMS + stream;
        }

        private boolean isKept(int place) {
            return place >= 0 && place < warmth.length;
        }
    }
}
