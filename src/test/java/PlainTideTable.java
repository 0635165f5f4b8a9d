import java.util.ArrayList;
import java.util.List;

/**
 * The document once more, word by word and without any care for speed, for the random runs to
 * compare the program with. It keeps nothing but what was set, and reckons all else anew.
 */
final class PlainTideTable {
    private static final class PlainPort {
        int highShift = 0;
        int lowShift = 0;
        int highFactor = 100;
        int lowFactor = 100;
        int addition = 0;
    }

    private record Water(int time, long height, boolean high) {
    }

    private final List<int[]> waves = new ArrayList<>();
    private final List<PlainPort> ports = new ArrayList<>();
    private final List<int[]> readings = new ArrayList<>();
    private int level = 0;

    // Only so that a row of questions is not too slow; every change of the tide forgets them.
    private long[] knownHeights = null;
    private List<Water> knownWaters = null;

    private static void demandIndex(boolean holds) {
        if (!holds) {
            throw new IndexOutOfBoundsException();
        }
    }

    private static void demandArgument(boolean holds) {
        if (!holds) {
            throw new IllegalArgumentException();
        }
    }

    private static void demandState(boolean holds) {
        if (!holds) {
            throw new IllegalStateException();
        }
    }

    private void changed() {
        knownHeights = null;
        knownWaters = null;
    }

    private static long waveHeightOf(int[] wave, long t) {
        long range = wave[0];
        long period = wave[1];
        long offset = wave[2];
        long u = (t + offset) % period;
        long v = 2 * u;
        if (v < period) {
            return 4 * range * v * (period - v) / (period * period);
        }
        v = v - period;
        return -(4 * range * v * (period - v) / (period * period));
    }

    private long heightOf(int t) {
        long sum = level;
        for (int[] wave : waves) {
            sum += waveHeightOf(wave, t);
        }
        return sum;
    }

    private long[] heights() {
        if (knownHeights == null) {
            knownHeights = new long[4320];
            for (int t = 0; t < 4320; t++) {
                knownHeights[t] = heightOf(t);
            }
        }
        return knownHeights;
    }

    private List<Water> waters() {
        if (knownWaters == null) {
            knownWaters = new ArrayList<>();
            long[] h = heights();
            for (int t = 1; t <= 4318; t++) {
                int other = t + 1;
                while (other <= 4319 && h[other] == h[t]) {
                    other++;
                }
                boolean isThereOne = other <= 4319;
                if (h[t] > h[t - 1] && isThereOne && h[other] < h[t]) {
                    knownWaters.add(new Water(t, h[t], true));
                }
                if (h[t] < h[t - 1] && isThereOne && h[other] > h[t]) {
                    knownWaters.add(new Water(t, h[t], false));
                }
            }
        }
        return knownWaters;
    }

    int addWave(int range, int period, int offset) {
        demandArgument(range >= 0 && range <= 5000);
        demandArgument(period >= 60 && period <= 20000);
        demandArgument(offset >= 0 && offset <= period - 1);
        demandState(waves.size() < 8);
        waves.add(new int[] {range, period, offset});
        changed();
        return waves.size() - 1;
    }

    int setRange(int wave, int range) {
        demandIndex(wave >= 0 && wave < waves.size());
        demandArgument(range >= 0 && range <= 5000);
        int before = waves.get(wave)[0];
        waves.get(wave)[0] = range;
        changed();
        return before;
    }

    int setLevel(int wanted) {
        demandArgument(wanted >= -10000 && wanted <= 10000);
        int before = level;
        level = wanted;
        changed();
        return before;
    }

    int height(int time) {
        demandArgument(time >= 0 && time <= 4319);
        return (int) heightOf(time);
    }

    int waveHeight(int wave, int time) {
        demandIndex(wave >= 0 && wave < waves.size());
        demandArgument(time >= 0 && time <= 4319);
        return (int) waveHeightOf(waves.get(wave), time);
    }

    int count(int what) {
        demandIndex(what >= 0 && what <= 3);
        int[] counts = {waves.size(), waters().size(), ports.size(), readings.size()};
        return counts[what];
    }

    int water(int water, int what) {
        demandIndex(water >= 0 && water < waters().size());
        demandIndex(what >= 0 && what <= 2);
        Water w = waters().get(water);
        long[] told = {w.time(), w.height(), w.high() ? 1 : 0};
        return (int) told[what];
    }

    int next(int time, boolean isHigh) {
        demandArgument(time >= 0 && time <= 4319);
        for (int number = waters().size() - 1, found = -1; ; number--) {
            if (number < 0 || waters().get(number).time() < time) {
                return found;
            }
            if (waters().get(number).high() == isHigh) {
                found = number;
            }
        }
    }

    private int meanOf(boolean isHigh) {
        List<Long> chosen = new ArrayList<>();
        for (Water w : waters()) {
            if (w.high() == isHigh) {
                chosen.add(w.height());
            }
        }
        long sum = chosen.stream().mapToLong(Long::longValue).sum();
        return chosen.isEmpty() ? 0 : (int) (sum / chosen.size());
    }

    int datum(int what) {
        demandIndex(what >= 0 && what <= 4);
        switch (what) {
            case 0:
                return (int) java.util.Arrays.stream(heights()).max().getAsLong();
            case 1:
                return (int) java.util.Arrays.stream(heights()).min().getAsLong();
            case 2:
                return meanOf(true);
            case 3:
                return meanOf(false);
            default:
                long most = 0;
                for (int i = 0; i + 1 < waters().size(); i++) {
                    long less = waters().get(i).height() - waters().get(i + 1).height();
                    most = Math.max(most, Math.abs(less));
                }
                return (int) most;
        }
    }

    int addPort() {
        demandState(ports.size() < 6);
        ports.add(new PlainPort());
        return ports.size() - 1;
    }

    int setPort(int port, boolean isHigh, int shift, int factor) {
        demandIndex(port >= 0 && port < ports.size());
        demandArgument(shift >= -300 && shift <= 300);
        demandArgument(factor >= 0 && factor <= 300);
        PlainPort p = ports.get(port);
        int before;
        if (isHigh) {
            before = p.highFactor;
            p.highShift = shift;
            p.highFactor = factor;
        } else {
            before = p.lowFactor;
            p.lowShift = shift;
            p.lowFactor = factor;
        }
        return before;
    }

    int setAddition(int port, int added) {
        demandIndex(port >= 0 && port < ports.size());
        demandArgument(added >= -3000 && added <= 3000);
        int before = ports.get(port).addition;
        ports.get(port).addition = added;
        return before;
    }

    private List<Water> watersAt(PlainPort p) {
        List<Water> there = new ArrayList<>();
        for (Water w : waters()) {
            int time = w.time() + (w.high() ? p.highShift : p.lowShift);
            long times = w.height() * (w.high() ? p.highFactor : p.lowFactor);
            there.add(new Water(time, times / 100 + p.addition, w.high()));
        }
        return there;
    }

    private static boolean inOrder(List<Water> there) {
        boolean holds = true;
        for (int i = 1; i < there.size(); i++) {
            holds &= there.get(i).time() > there.get(i - 1).time();
        }
        return holds;
    }

    boolean isInOrder(int port) {
        demandIndex(port >= 0 && port < ports.size());
        return inOrder(watersAt(ports.get(port)));
    }

    int portWater(int port, int water, boolean isTime) {
        demandIndex(port >= 0 && port < ports.size());
        demandIndex(water >= 0 && water < waters().size());
        Water w = watersAt(ports.get(port)).get(water);
        return isTime ? w.time() : (int) w.height();
    }

    /** The height between these waters, which are in order, or null if it is not told. */
    private static Long toldAt(List<Water> there, int t) {
        Water a = null;
        Water b = null;
        for (Water w : there) {
            if (w.time() <= t) {
                a = w;
            } else if (b == null) {
                b = w;
            }
        }
        if (a == null || b == null) {
            return null;
        }
        long wholeD = b.time() - a.time();
        long e = t - a.time();
        long s = 6 * e / wholeD;
        long[] ways = {1, 2, 3, 3, 2, 1};
        long c = 0;
        for (int sixth = 0; sixth < s; sixth++) {
            c += ways[sixth];
        }
        long w = ways[(int) s];
        return a.height() + (b.height() - a.height()) * (c * wholeD + w * (6 * e - s * wholeD))
                / (12 * wholeD);
    }

    int portHeight(int port, int time) {
        demandIndex(port >= 0 && port < ports.size());
        demandArgument(time >= 0 && time <= 4319);
        List<Water> there = watersAt(ports.get(port));
        demandState(inOrder(there));
        Long told = toldAt(there, time);
        demandState(told != null);
        return (int) (long) told;
    }

    int windows(int port, int least, int from, int to, int what) {
        demandIndex(port >= -1 && port < ports.size());
        demandIndex(what >= 0 && what <= 3);
        demandArgument(from >= 0 && from <= to && to <= 4319);
        boolean[] counts = new boolean[4321];
        if (port == -1) {
            for (int t = from; t <= to; t++) {
                counts[t] = heights()[t] >= least;
            }
        } else {
            List<Water> there = watersAt(ports.get(port));
            for (int t = from; t <= to && inOrder(there); t++) {
                Long told = toldAt(there, t);
                counts[t] = told != null && told >= least;
            }
        }
        int[] answer = {0, 0, -1, 0};
        for (int t = 0; t < 4320; t++) {
            answer[1] += counts[t] ? 1 : 0;
            boolean isBegin = counts[t] && (t == 0 || !counts[t - 1]);
            if (isBegin) {
                answer[0]++;
                answer[2] = answer[2] == -1 ? t : answer[2];
                int end = t;
                while (counts[end]) {
                    end++;
                }
                answer[3] = Math.max(answer[3], end - t);
            }
        }
        return answer[what];
    }

    int read(int time, int height) {
        demandArgument(time >= 0 && time <= 4319);
        demandArgument(height >= -50000 && height <= 50000);
        demandState(readings.size() < 40);
        readings.add(new int[] {time, height});
        return readings.size();
    }

    private long sumOfReadings() {
        long sum = 0;
        for (int[] reading : readings) {
            sum += reading[1] - heightOf(reading[0]);
        }
        return sum;
    }

    double residual() {
        return readings.isEmpty() ? 0.0 : (double) sumOfReadings() / readings.size();
    }

    int worst() {
        int place = -1;
        for (int i = readings.size() - 1; i >= 0; i--) {
            long here = Math.abs(readings.get(i)[1] - heightOf(readings.get(i)[0]));
            long there = place < 0 ? -1
                    : Math.abs(readings.get(place)[1] - heightOf(readings.get(place)[0]));
            place = here >= there ? i : place;
        }
        return place;
    }

    int adjust() {
        demandState(!readings.isEmpty());
        long raise = sumOfReadings() / readings.size();
        demandState(level + raise >= -10000 && level + raise <= 10000);
        level += (int) raise;
        readings.clear();
        changed();
        return (int) raise;
    }

    long digest() {
        List<Long> numbers = new ArrayList<>();
        for (int what = 0; what <= 3; what++) {
            numbers.add((long) count(what));
        }
        numbers.add((long) level);
        for (Water w : waters()) {
            numbers.addAll(List.of((long) w.time(), w.height(), w.high() ? 1L : 0L));
        }
        for (PlainPort p : ports) {
            List<Water> there = watersAt(p);
            numbers.add(inOrder(there) ? 1L : 0L);
            for (Water w : there) {
                numbers.addAll(List.of((long) w.time(), w.height()));
            }
        }
        for (int what = 0; what <= 4; what++) {
            numbers.add((long) datum(what));
        }
        long d = 313;
        for (long x : numbers) {
            d = d * 31 + x;
        }
        return d;
    }
}
