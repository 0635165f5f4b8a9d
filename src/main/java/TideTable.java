import java.util.ArrayList;

/**
 * A maker of tide tables: the tide of a chief port put together from waves, its high and low
 * waters, the ports that follow it, windows of enough water, and what a gauge says of it all.
 */
public final class TideTable {
    private static final int MINUTES = 4320;
    private static final int CHIEF_PORT = -1;

    private static final int MOST_WAVES = 8;
    private static final int MOST_PORTS = 6;
    private static final int MOST_READINGS = 40;

    private static final int MOST_RANGE = 5000;
    private static final int LEAST_PERIOD = 60;
    private static final int MOST_PERIOD = 20000;
    private static final int MOST_LEVEL = 10000;
    private static final int MOST_SHIFT = 300;
    private static final int MOST_FACTOR = 300;
    private static final int MOST_ADDITION = 3000;
    private static final int MOST_READ = 50000;

    private static final int WHOLE_FACTOR = 100;
    private static final int SIXTHS = 6;
    private static final int TWELFTHS = 12;
    private static final int[] TWELFTHS_OF_SIXTH = {1, 2, 3, 3, 2, 1};
    private static final int[] TWELFTHS_AHEAD_OF_SIXTH = {0, 1, 3, 6, 9, 11};

    private static final int COUNTS = 4;
    private static final int DATUMS = 5;
    private static final long DIGEST_START = 313;
    private static final long DIGEST_FACTOR = 31;

    private final Tide tide = new Tide();
    private final Table table = new Table();
    private final ArrayList<Port> ports = new ArrayList<>();
    private final ArrayList<Reading> readings = new ArrayList<>();

    // Reckoning the table is dear, so a change only marks it, and the next question reckons it.
    private boolean isTableOld = true;

    public TideTable() {
    }

    // ---- the chief port

    public int addWave(int range, int period, int offset)
            throws IllegalArgumentException, IllegalStateException {
        if (!isWithin(range, 0, MOST_RANGE)) {
            throw new IllegalArgumentException("range is not 0 to 5000");
        }
        if (!isWithin(period, LEAST_PERIOD, MOST_PERIOD)) {
            throw new IllegalArgumentException("period is not 60 to 20000");
        }
        if (!isWithin(offset, 0, period - 1)) {
            throw new IllegalArgumentException("offset is not 0 to period less 1");
        }
        if (tide.waves.size() >= MOST_WAVES) {
            throw new IllegalStateException("there are 8 waves");
        }
        tide.waves.add(new Wave(range, period, offset));
        isTableOld = true;
        return tide.waves.size() - 1;
    }

    public int setRange(int wave, int range)
            throws IndexOutOfBoundsException, IllegalArgumentException {
        if (!hasWave(wave)) {
            throw new IndexOutOfBoundsException("there is no such wave");
        }
        if (!isWithin(range, 0, MOST_RANGE)) {
            throw new IllegalArgumentException("range is not 0 to 5000");
        }
        Wave changed = tide.waves.get(wave);
        int before = changed.range;
        changed.range = range;
        isTableOld = true;
        return before;
    }

    public int setLevel(int level) throws IllegalArgumentException {
        if (!isWithin(level, -MOST_LEVEL, MOST_LEVEL)) {
            throw new IllegalArgumentException("level is not -10000 to 10000");
        }
        int before = tide.level;
        tide.level = level;
        isTableOld = true;
        return before;
    }

    public int height(int time) throws IllegalArgumentException {
        if (!isMinute(time)) {
            throw new IllegalArgumentException("time is not 0 to 4319");
        }
        return tide.heightAt(time);
    }

    public int waveHeight(int wave, int time)
            throws IndexOutOfBoundsException, IllegalArgumentException {
        if (!hasWave(wave)) {
            throw new IndexOutOfBoundsException("there is no such wave");
        }
        if (!isMinute(time)) {
            throw new IllegalArgumentException("time is not 0 to 4319");
        }
        return tide.waves.get(wave).heightAt(time);
    }

    public int count(int what) throws IndexOutOfBoundsException {
        if (!isWithin(what, 0, COUNTS - 1)) {
            throw new IndexOutOfBoundsException("what is not 0 to 3");
        }
        return numberOf(what);
    }

    public int water(int water, int what) throws IndexOutOfBoundsException {
        Table now = currentTable();
        if (!now.hasWater(water)) {
            throw new IndexOutOfBoundsException("there is no such water");
        }
        switch (what) {
            case 0:
                return now.timeOf(water);
            case 1:
                return now.heightOf(water);
            case 2:
                return now.isHigh(water) ? 1 : 0;
            default:
                throw new IndexOutOfBoundsException("what is not 0 to 2");
        }
    }

    public int next(int time, boolean isHigh) throws IllegalArgumentException {
        if (!isMinute(time)) {
            throw new IllegalArgumentException("time is not 0 to 4319");
        }
        Table now = currentTable();
        for (int water = 0; water < now.waters; water++) {
            if (now.timeOf(water) >= time && now.isHigh(water) == isHigh) {
                return water;
            }
        }
        return -1;
    }

    public int datum(int what) throws IndexOutOfBoundsException {
        if (!isWithin(what, 0, DATUMS - 1)) {
            throw new IndexOutOfBoundsException("what is not 0 to 4");
        }
        return currentTable().datumOf(what);
    }

    // ---- other ports

    public int addPort() throws IllegalStateException {
        if (ports.size() >= MOST_PORTS) {
            throw new IllegalStateException("there are 6 ports");
        }
        ports.add(new Port());
        return ports.size() - 1;
    }

    public int setPort(int port, boolean isHigh, int shift, int factor)
            throws IndexOutOfBoundsException, IllegalArgumentException {
        if (!hasPort(port)) {
            throw new IndexOutOfBoundsException("there is no such port");
        }
        if (!isWithin(shift, -MOST_SHIFT, MOST_SHIFT)) {
            throw new IllegalArgumentException("shift is not -300 to 300");
        }
        if (!isWithin(factor, 0, MOST_FACTOR)) {
            throw new IllegalArgumentException("factor is not 0 to 300");
        }
        Follow changed = ports.get(port).followOf(isHigh);
        int before = changed.factor;
        changed.shift = shift;
        changed.factor = factor;
        return before;
    }

    public int setAddition(int port, int added)
            throws IndexOutOfBoundsException, IllegalArgumentException {
        if (!hasPort(port)) {
            throw new IndexOutOfBoundsException("there is no such port");
        }
        if (!isWithin(added, -MOST_ADDITION, MOST_ADDITION)) {
            throw new IllegalArgumentException("added is not -3000 to 3000");
        }
        Port changed = ports.get(port);
        int before = changed.addition;
        changed.addition = added;
        return before;
    }

    public boolean isInOrder(int port) throws IndexOutOfBoundsException {
        if (!hasPort(port)) {
            throw new IndexOutOfBoundsException("there is no such port");
        }
        return ports.get(port).isOrderly(currentTable());
    }

    public int portWater(int port, int water, boolean isTime) throws IndexOutOfBoundsException {
        if (!hasPort(port)) {
            throw new IndexOutOfBoundsException("there is no such port");
        }
        Table now = currentTable();
        if (!now.hasWater(water)) {
            throw new IndexOutOfBoundsException("there is no such water");
        }
        Port asked = ports.get(port);
        return isTime ? asked.timeOf(now, water) : asked.heightOf(now, water);
    }

    public int portHeight(int port, int time)
            throws IndexOutOfBoundsException, IllegalArgumentException, IllegalStateException {
        if (!hasPort(port)) {
            throw new IndexOutOfBoundsException("there is no such port");
        }
        if (!isMinute(time)) {
            throw new IllegalArgumentException("time is not 0 to 4319");
        }
        Table now = currentTable();
        Port asked = ports.get(port);
        if (!asked.isOrderly(now)) {
            throw new IllegalStateException("the port is not in order");
        }
        int latest = asked.latestWater(now, -1, time);
        if (!now.isBetweenWaters(latest)) {
            throw new IllegalStateException("there is no water on one side of the time");
        }
        return asked.heightBehind(now, latest, time);
    }

    // ---- windows

    public int windows(int port, int level, int from, int to, int what)
            throws IndexOutOfBoundsException, IllegalArgumentException {
        if (port != CHIEF_PORT && !hasPort(port)) {
            throw new IndexOutOfBoundsException("there is no such port");
        }
        if (!isWithin(what, 0, 3)) {
            throw new IndexOutOfBoundsException("what is not 0 to 3");
        }
        if (from < 0 || from > to || to >= MINUTES) {
            throw new IllegalArgumentException("from and to are not 0 to 4319 in their order");
        }
        Tally tally = new Tally();
        if (port == CHIEF_PORT) {
            tallyChiefPort(tally, level, from, to);
        } else {
            tallyPort(tally, ports.get(port), level, from, to);
        }
        return tally.answer(what);
    }

    // ---- readings

    public int read(int time, int height) throws IllegalArgumentException, IllegalStateException {
        if (!isMinute(time)) {
            throw new IllegalArgumentException("time is not 0 to 4319");
        }
        if (!isWithin(height, -MOST_READ, MOST_READ)) {
            throw new IllegalArgumentException("height is not -50000 to 50000");
        }
        if (readings.size() >= MOST_READINGS) {
            throw new IllegalStateException("there are 40 readings");
        }
        readings.add(new Reading(time, height));
        return readings.size();
    }

    public double residual() {
        int number = readings.size();
        return number == 0 ? 0.0 : (double) sumOfDifferences() / (double) number;
    }

    public int worst() {
        int worstPlace = -1;
        long worstDifference = -1;
        for (int place = 0; place < readings.size(); place++) {
            long difference = Math.abs(differenceOf(place));
            if (difference > worstDifference) {
                worstDifference = difference;
                worstPlace = place;
            }
        }
        return worstPlace;
    }

    public int adjust() throws IllegalStateException {
        if (readings.isEmpty()) {
            throw new IllegalStateException("there are no readings");
        }
        int raised = (int) quotient(sumOfDifferences(), readings.size());
        int level = tide.level + raised;
        if (!isWithin(level, -MOST_LEVEL, MOST_LEVEL)) {
            throw new IllegalStateException("the level would not be -10000 to 10000");
        }
        tide.level = level;
        isTableOld = true;
        readings.clear();
        return raised;
    }

    public long digest() {
        Table now = currentTable();
        long digest = DIGEST_START;
        for (int what = 0; what < COUNTS; what++) {
            digest = mixed(digest, numberOf(what));
        }
        digest = mixed(digest, tide.level);
        digest = mixedWithWaters(digest, now);
        for (int port = 0; port < ports.size(); port++) {
            digest = mixedWithPort(digest, now, ports.get(port));
        }
        for (int what = 0; what < DATUMS; what++) {
            digest = mixed(digest, now.datumOf(what));
        }
        return digest;
    }

    // ---- what the calls share

    private static boolean isWithin(int number, int least, int most) {
        return number >= least && number <= most;
    }

    private static boolean isMinute(int time) {
        return isWithin(time, 0, MINUTES - 1);
    }

    /** Divides, cut towards 0; 0 stands for a mean of nothing, so that no division can throw. */
    private static long quotient(long dividend, long divisor) {
        return divisor == 0 ? 0 : dividend / divisor;
    }

    private boolean hasWave(int wave) {
        return wave >= 0 && wave < tide.waves.size();
    }

    private boolean hasPort(int port) {
        return port >= 0 && port < ports.size();
    }

    private Table currentTable() {
        if (isTableOld) {
            table.fill(tide);
            isTableOld = false;
        }
        return table;
    }

    private int numberOf(int what) {
        switch (what) {
            case 0:
                return tide.waves.size();
            case 1:
                return currentTable().waters;
            case 2:
                return ports.size();
            default:
                return readings.size();
        }
    }

    private void tallyChiefPort(Tally tally, int level, int from, int to) {
        Table now = currentTable();
        for (int minute = from; minute <= to; minute++) {
            tally.note(minute, now.heightAt(minute) >= level);
        }
    }

    private void tallyPort(Tally tally, Port port, int level, int from, int to) {
        Table now = currentTable();
        if (!port.isOrderly(now)) {
            return;
        }
        int latest = -1;
        for (int minute = from; minute <= to; minute++) {
            latest = port.latestWater(now, latest, minute);
            boolean isTold = now.isBetweenWaters(latest);
            tally.note(minute, isTold && port.heightBehind(now, latest, minute) >= level);
        }
    }

    private long differenceOf(int place) {
        if (place < 0 || place >= readings.size()) {
            return 0;
        }
        Reading reading = readings.get(place);
        return (long) reading.height - tide.heightAt(reading.time);
    }

    private long sumOfDifferences() {
        long sum = 0;
        for (int place = 0; place < readings.size(); place++) {
            sum += differenceOf(place);
        }
        return sum;
    }

    private static long mixed(long digest, long number) {
        return digest * DIGEST_FACTOR + number;
    }

    private static long mixedWithWaters(long digest, Table now) {
        long mixture = digest;
        for (int water = 0; water < now.waters; water++) {
            mixture = mixed(mixture, now.timeOf(water));
            mixture = mixed(mixture, now.heightOf(water));
            mixture = mixed(mixture, now.isHigh(water) ? 1 : 0);
        }
        return mixture;
    }

    private static long mixedWithPort(long digest, Table now, Port port) {
        long mixture = mixed(digest, port.isOrderly(now) ? 1 : 0);
        for (int water = 0; water < now.waters; water++) {
            mixture = mixed(mixture, port.timeOf(now, water));
            mixture = mixed(mixture, port.heightOf(now, water));
        }
        return mixture;
    }

    /** One wave of the tide: an arch up in the first half of its period, one down in the second. */
    private static final class Wave {
        private int range;
        private final int period;
        private final int offset;

        Wave(int range, int period, int offset) {
            this.range = range;
            this.period = period;
            this.offset = offset;
        }

        int heightAt(int time) {
            // addWave lets no such period in; it is looked at here so that no division can throw.
            if (period <= 0) {
                return 0;
            }
            int turned = 2 * ((time + offset) % period);
            boolean isUp = turned < period;
            long part = isUp ? turned : turned - period;
            long arch = 4L * range * part * (period - part) / ((long) period * period);
            return (int) (isUp ? arch : -arch);
        }
    }

    /** What the tide of the chief port is made of. */
    private static final class Tide {
        private final ArrayList<Wave> waves = new ArrayList<>();
        private int level;

        int heightAt(int time) {
            int sum = level;
            for (int wave = 0; wave < waves.size(); wave++) {
                sum += waves.get(wave).heightAt(time);
            }
            return sum;
        }
    }

    /** The heights of all minutes at the chief port and the waters that stand in them. */
    private static final class Table {
        private final int[] heights = new int[MINUTES];
        private final int[] waterTimes = new int[MINUTES];
        private final int[] waterHeights = new int[MINUTES];
        private final boolean[] waterHighs = new boolean[MINUTES];
        private int waters;

        void fill(Tide tide) {
            for (int minute = 0; minute < heights.length; minute++) {
                heights[minute] = tide.heightAt(minute);
            }
            findWaters();
        }

        /**
         * Where the height stays the same for a while, the water is at the first of these minutes,
         * and only the next change tells whether there is one.
         */
        private void findWaters() {
            waters = 0;
            int lastChange = 0;
            boolean wasRise = false;
            for (int minute = 1; minute < heights.length; minute++) {
                if (heights[minute] == heights[minute - 1]) {
                    continue;
                }
                boolean isRise = heights[minute] > heights[minute - 1];
                if (lastChange > 0 && isRise != wasRise) {
                    noteWater(lastChange, heights[minute - 1], wasRise);
                }
                lastChange = minute;
                wasRise = isRise;
            }
        }

        private void noteWater(int time, int height, boolean isHigh) {
            if (waters < MINUTES) {
                waterTimes[waters] = time;
                waterHeights[waters] = height;
                waterHighs[waters] = isHigh;
                waters++;
            }
        }

        boolean hasWater(int water) {
            return water >= 0 && water < waters;
        }

        boolean isBetweenWaters(int latest) {
            return latest >= 0 && latest < waters - 1;
        }

        int heightAt(int minute) {
            return isMinute(minute) ? heights[minute] : 0;
        }

        int timeOf(int water) {
            return hasWater(water) ? waterTimes[water] : 0;
        }

        int heightOf(int water) {
            return hasWater(water) ? waterHeights[water] : 0;
        }

        boolean isHigh(int water) {
            return hasWater(water) && waterHighs[water];
        }

        int datumOf(int what) {
            switch (what) {
                case 0:
                    return greatestHeight();
                case 1:
                    return leastHeight();
                case 2:
                    return meanOfWaters(true);
                case 3:
                    return meanOfWaters(false);
                default:
                    return greatestDifference();
            }
        }

        private int greatestHeight() {
            int greatest = heightAt(0);
            for (int height : heights) {
                greatest = Math.max(greatest, height);
            }
            return greatest;
        }

        private int leastHeight() {
            int least = heightAt(0);
            for (int height : heights) {
                least = Math.min(least, height);
            }
            return least;
        }

        private int meanOfWaters(boolean isHigh) {
            long sum = 0;
            int number = 0;
            for (int water = 0; water < waters; water++) {
                if (isHigh(water) == isHigh) {
                    sum += heightOf(water);
                    number++;
                }
            }
            return (int) quotient(sum, number);
        }

        private int greatestDifference() {
            int greatest = 0;
            for (int water = 1; water < waters; water++) {
                int difference = Math.abs(heightOf(water) - heightOf(water - 1));
                greatest = Math.max(greatest, difference);
            }
            return greatest;
        }
    }

    /** How a port follows the chief one in one sort of waters. */
    private static final class Follow {
        private int shift;
        private int factor = WHOLE_FACTOR;
    }

    /** A port whose waters follow those of the chief one. */
    private static final class Port {
        private final Follow highs = new Follow();
        private final Follow lows = new Follow();
        private int addition;

        Follow followOf(boolean isHigh) {
            return isHigh ? highs : lows;
        }

        int timeOf(Table now, int water) {
            return now.timeOf(water) + followOf(now.isHigh(water)).shift;
        }

        int heightOf(Table now, int water) {
            int factor = followOf(now.isHigh(water)).factor;
            return now.heightOf(water) * factor / WHOLE_FACTOR + addition;
        }

        boolean isOrderly(Table now) {
            for (int water = 1; water < now.waters; water++) {
                if (timeOf(now, water) <= timeOf(now, water - 1)) {
                    return false;
                }
            }
            return true;
        }

        /**
         * The latest water at the time or ahead of it, in an orderly port; -1 if there is none. The
         * search goes on from an earlier answer, so that a row of minutes goes through them once.
         */
        int latestWater(Table now, int earlier, int time) {
            int latest = earlier;
            for (int water = earlier + 1; water < now.waters; water++) {
                if (timeOf(now, water) > time) {
                    break;
                }
                latest = water;
            }
            return latest;
        }

        /** The height at a time between a water and the one behind it, by the twelfths. */
        int heightBehind(Table now, int water, int time) {
            long begin = timeOf(now, water);
            long whole = timeOf(now, water + 1) - begin;
            long start = heightOf(now, water);
            long change = heightOf(now, water + 1) - start;
            long gone = twelfthsGone(time - begin, whole);
            return (int) (start + quotient(change * gone, TWELFTHS * whole));
        }

        /** How much of the way is gone, in twelfths, times the minutes of the whole. */
        private static long twelfthsGone(long minutes, long whole) {
            int sixth = (int) quotient(SIXTHS * minutes, whole);
            if (sixth < 0 || sixth >= TWELFTHS_OF_SIXTH.length
                    || sixth >= TWELFTHS_AHEAD_OF_SIXTH.length) {
                return 0;
            }
            return TWELFTHS_AHEAD_OF_SIXTH[sixth] * whole
                    + TWELFTHS_OF_SIXTH[sixth] * (SIXTHS * minutes - sixth * whole);
        }
    }

    /** What a gauge of the chief port showed. */
    private static final class Reading {
        private final int time;
        private final int height;

        Reading(int time, int height) {
            this.time = time;
            this.height = height;
        }
    }

    /** Counts windows while minutes are told to it, one behind the other. */
    private static final class Tally {
        private int windows;
        private int minutes;
        private int first = -1;
        private int longest;
        private int current;

        void note(int minute, boolean isHighEnough) {
            if (!isHighEnough) {
                current = 0;
                return;
            }
            if (current == 0) {
                windows++;
            }
            if (first < 0) {
                first = minute;
            }
            minutes++;
            current++;
            longest = Math.max(longest, current);
        }

        int answer(int what) {
            switch (what) {
                case 0:
                    return windows;
                case 1:
                    return minutes;
                case 2:
                    return first;
                default:
                    return longest;
            }
        }
    }
}
