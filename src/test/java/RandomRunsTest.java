import java.util.Random;
import java.util.function.LongSupplier;

/**
 * Runs of calls that a fixed seed chooses, on the program and on the plain copy of the document;
 * every answer and every exception must be the same. All promises are in it, and with them that a
 * call that throws changes nothing.
 */
public final class RandomRunsTest {
    private static final int RUNS = 300;
    private static final int CALLS = 512;

    private final Due due = new Due();
    private final Random random;
    private final String run;
    private final TideTable program = new TideTable();
    private final PlainTideTable plain = new PlainTideTable();
    private final boolean isWild;
    private int made = 0;

    private RandomRunsTest(int seed) {
        this.random = new Random(seed);
        this.run = "run " + seed + ": ";
        this.isWild = seed % 3 == 0;
    }

    public static void main(String[] args) {
        for (int seed = 1; seed <= RUNS; seed++) {
            RandomRunsTest one = new RandomRunsTest(seed);
            one.go();
            if (seed == RUNS) {
                one.due.end("RandomRunsTest, the last run");
            }
        }
    }

    private void go() {
        int calls = isWild ? CALLS : 20 + random.nextInt(100);
        setUp();
        while (made < calls - 1) {
            oneCall();
        }
        compare("digest()", program::digest, plain::digest);
        if (due.wrong() > 0) {
            due.end("RandomRunsTest, " + run);
        }
    }

    /** Most runs begin with a tide and some ports, or they would ask an empty table for long. */
    private void setUp() {
        if (random.nextInt(5) == 0) {
            addWavesAgainstEachOther();
        }
        int waves = random.nextInt(4);
        for (int i = 0; i < waves; i++) {
            addWave();
        }
        for (int i = random.nextInt(3); i > 0; i--) {
            compare("addPort()", program::addPort, plain::addPort);
        }
    }

    /** A number from least to most, often at an edge, and now and then outside. */
    private int number(int least, int most) {
        int[] odd = {least - 1, most + 1, Integer.MIN_VALUE, Integer.MAX_VALUE};
        int[] edges = {least, most, Math.max(least, Math.min(0, most))};
        int kind = random.nextInt(100);
        if (kind < (isWild ? 8 : 2)) {
            return odd[random.nextInt(odd.length)];
        }
        if (kind < 20) {
            return edges[random.nextInt(edges.length)];
        }
        return (int) (least + (long) (random.nextDouble() * ((long) most - least + 1)));
    }

    private void compare(String call, LongSupplier got, LongSupplier want) {
        made++;
        due.same(run + call, Due.outcome(got), Due.outcome(want));
    }

    private void addWave() {
        int range = random.nextInt(3) == 0 ? number(0, 20) : number(0, 5000);
        int period = random.nextInt(3) == 0 ? number(60, 20000) : number(60, 1500);
        int offset = number(0, Math.max(0, Math.min(period, 20000) - 1));
        compare("addWave(" + range + ", " + period + ", " + offset + ")",
                () -> program.addWave(range, period, offset),
                () -> plain.addWave(range, period, offset));
    }

    /** Such a tide has many waters, some of them a minute apart. */
    private void addWavesAgainstEachOther() {
        int range = 5 + random.nextInt(30);
        int period = 60 + random.nextInt(500);
        int other = period + random.nextInt(3);
        compare("a wave", () -> program.addWave(range, period, 0),
                () -> plain.addWave(range, period, 0));
        compare("the wave against it", () -> program.addWave(range, other, other / 2),
                () -> plain.addWave(range, other, other / 2));
    }

    private void oneCall() {
        switch (random.nextInt(9)) {
            case 0:
                changeTide();
                break;
            case 1:
                changePorts();
                break;
            case 2:
            case 3:
                askTide();
                break;
            case 4:
                askWaters();
                break;
            case 5:
                askPort();
                break;
            case 6:
                askWindows();
                break;
            case 7:
                changeReadings();
                break;
            default:
                askReadings();
                break;
        }
    }

    private void changeTide() {
        int wave = number(0, Math.max(0, plain.count(0) - 1));
        int range = random.nextBoolean() ? number(0, 5000) : number(0, 3);
        int level = number(-10000, 10000);
        switch (random.nextInt(isWild ? 3 : 8)) {
            case 0:
                addWave();
                break;
            case 1:
                compare("setLevel(" + level + ")",
                        () -> program.setLevel(level), () -> plain.setLevel(level));
                break;
            default:
                compare("setRange(" + wave + ", " + range + ")",
                        () -> program.setRange(wave, range), () -> plain.setRange(wave, range));
                break;
        }
    }

    private int port() {
        return number(0, Math.max(0, plain.count(2) - 1));
    }

    private void changePorts() {
        int port = port();
        boolean isHigh = random.nextBoolean();
        int shift = random.nextInt(4) == 0 ? number(-300, 300) : number(-20, 20);
        int factor = number(0, 300);
        int added = number(-3000, 3000);
        switch (random.nextInt(6)) {
            case 0:
                compare("addPort()", program::addPort, plain::addPort);
                break;
            case 1:
                compare("setAddition(" + port + ", " + added + ")",
                        () -> program.setAddition(port, added),
                        () -> plain.setAddition(port, added));
                break;
            default:
                compare("setPort(" + port + ", " + isHigh + ", " + shift + ", " + factor + ")",
                        () -> program.setPort(port, isHigh, shift, factor),
                        () -> plain.setPort(port, isHigh, shift, factor));
                break;
        }
    }

    private void askTide() {
        int time = number(0, 4319);
        int wave = number(0, Math.max(0, plain.count(0) - 1));
        int what = number(0, 3);
        int datum = number(0, 4);
        switch (random.nextInt(4)) {
            case 0:
                compare("height(" + time + ")",
                        () -> program.height(time), () -> plain.height(time));
                break;
            case 1:
                compare("waveHeight(" + wave + ", " + time + ")",
                        () -> program.waveHeight(wave, time), () -> plain.waveHeight(wave, time));
                break;
            case 2:
                compare("count(" + what + ")",
                        () -> program.count(what), () -> plain.count(what));
                break;
            default:
                compare("datum(" + datum + ")",
                        () -> program.datum(datum), () -> plain.datum(datum));
                break;
        }
    }

    private int water() {
        return number(0, Math.max(0, plain.count(1) - 1));
    }

    private void askWaters() {
        int water = water();
        int what = number(0, 2);
        int time = number(0, 4319);
        boolean isHigh = random.nextBoolean();
        if (random.nextBoolean()) {
            compare("water(" + water + ", " + what + ")",
                    () -> program.water(water, what), () -> plain.water(water, what));
        } else {
            compare("next(" + time + ", " + isHigh + ")",
                    () -> program.next(time, isHigh), () -> plain.next(time, isHigh));
        }
    }

    private void askPort() {
        int port = port();
        int water = water();
        int time = number(0, 4319);
        boolean isTime = random.nextBoolean();
        switch (random.nextInt(4)) {
            case 0:
                compare("isInOrder(" + port + ")",
                        () -> program.isInOrder(port) ? 1 : 0, () -> plain.isInOrder(port) ? 1 : 0);
                break;
            case 1:
                compare("portWater(" + port + ", " + water + ", " + isTime + ")",
                        () -> program.portWater(port, water, isTime),
                        () -> plain.portWater(port, water, isTime));
                break;
            default:
                compare("portHeight(" + port + ", " + time + ")",
                        () -> program.portHeight(port, time), () -> plain.portHeight(port, time));
                break;
        }
    }

    private void askWindows() {
        int port = random.nextInt(3) == 0 ? -1 : port();
        int level = random.nextInt(8) == 0 ? number(-60000, 60000) : number(-2000, 2000);
        int one = number(0, 4319);
        int other = number(0, 4319);
        boolean isSwapped = random.nextInt(20) > 0;
        int from = isSwapped ? Math.min(one, other) : one;
        int to = isSwapped ? Math.max(one, other) : other;
        int what = number(0, 3);
        compare("windows(" + port + ", " + level + ", " + from + ", " + to + ", " + what + ")",
                () -> program.windows(port, level, from, to, what),
                () -> plain.windows(port, level, from, to, what));
    }

    private void changeReadings() {
        int time = number(0, 4319);
        int height = random.nextBoolean() ? number(-50000, 50000) : number(-3000, 3000);
        if (random.nextInt(isWild ? 60 : 8) == 0) {
            compare("adjust()", program::adjust, plain::adjust);
        } else {
            compare("read(" + time + ", " + height + ")",
                    () -> program.read(time, height), () -> plain.read(time, height));
        }
    }

    private void askReadings() {
        switch (random.nextInt(3)) {
            case 0:
                made++;
                due.sameDouble(run + "residual()", program.residual(), plain.residual());
                break;
            case 1:
                compare("worst()", program::worst, plain::worst);
                break;
            default:
                compare("digest()", program::digest, plain::digest);
                break;
        }
    }
}
