import java.util.function.LongSupplier;

/**
 * The full object (8 waves, 6 ports, 40 readings) answers all its questions as the plain copy of the
 * document does, and an object still does so at its 512th call: "An object is used for at most 512
 * calls after it has been made".
 */
public final class FullObjectTest {
    private static final int CALLS = 512;

    private final Due due = new Due();
    private TideTable x;
    private PlainTideTable plain;
    private int calls;

    public static void main(String[] args) {
        FullObjectTest test = new FullObjectTest();
        test.chiefPort();
        test.otherPorts();
        test.windows();
        test.readings();
        test.lastCall();
        test.due.end("FullObjectTest");
    }

    private void same(String what, LongSupplier got, LongSupplier want) {
        calls++;
        due.same(what + ", call " + calls, Due.outcome(got), Due.outcome(want));
    }

    private void addWave(int range, int period, int offset) {
        same("addWave", () -> x.addWave(range, period, offset),
                () -> plain.addWave(range, period, offset));
    }

    private void addPort(int highShift, int lowShift, int factor, int added) {
        same("addPort", x::addPort, plain::addPort);
        int port = plain.count(2) - 1;
        same("setPort, highs", () -> x.setPort(port, true, highShift, factor),
                () -> plain.setPort(port, true, highShift, factor));
        same("setPort, lows", () -> x.setPort(port, false, lowShift, 300 - factor),
                () -> plain.setPort(port, false, lowShift, 300 - factor));
        same("setAddition", () -> x.setAddition(port, added), () -> plain.setAddition(port, added));
    }

    /** The greatest of everything, in 8 + 1 + 24 + 40 calls. */
    private void makeFull() {
        x = new TideTable();
        plain = new PlainTideTable();
        calls = 0;
        for (int wave = 0; wave < 8; wave++) {
            addWave(5000, 700 + 7 * wave, 699);
        }
        same("setLevel", () -> x.setLevel(10000), () -> plain.setLevel(10000));
        addPort(-300, -300, 300, 3000);
        addPort(300, 300, 0, -3000);
        addPort(0, 0, 100, 0);
        addPort(7, 8, 33, -7);
        addPort(-100, -98, 201, 1);
        addPort(300, -300, 300, -1);
        for (int number = 0; number < 40; number++) {
            int time = 110 * number;
            int height = number % 2 == 0 ? 50000 : -50000;
            same("read", () -> x.read(time, height), () -> plain.read(time, height));
        }
    }

    private void chiefPort() {
        makeFull();
        for (int what = 0; what <= 3; what++) {
            int asked = what;
            same("count", () -> x.count(asked), () -> plain.count(asked));
        }
        for (int what = 0; what <= 4; what++) {
            int asked = what;
            same("datum", () -> x.datum(asked), () -> plain.datum(asked));
        }
        for (int water = 0; water < plain.count(1); water++) {
            for (int what = 0; what <= 2; what++) {
                int number = water;
                int asked = what;
                same("water", () -> x.water(number, asked), () -> plain.water(number, asked));
            }
        }
        for (int time = 0; time <= 4319; time += 127) {
            int at = time;
            same("height", () -> x.height(at), () -> plain.height(at));
            same("next high", () -> x.next(at, true), () -> plain.next(at, true));
            same("next low", () -> x.next(at, false), () -> plain.next(at, false));
            same("waveHeight", () -> x.waveHeight(at % 8, at), () -> plain.waveHeight(at % 8, at));
        }
        same("digest", x::digest, plain::digest);
        due.same("calls of one object", calls <= CALLS, true);
    }

    private void otherPorts() {
        makeFull();
        for (int number = 0; number < 6; number++) {
            int port = number;
            same("isInOrder", () -> x.isInOrder(port) ? 1 : 0, () -> plain.isInOrder(port) ? 1 : 0);
            for (int last = 0; last < plain.count(1); last++) {
                int water = last;
                same("time", () -> x.portWater(port, water, true),
                        () -> plain.portWater(port, water, true));
                same("height", () -> x.portWater(port, water, false),
                        () -> plain.portWater(port, water, false));
            }
            for (int time = 800; time <= 3500; time += 97) {
                int at = time;
                same("portHeight", () -> x.portHeight(port, at), () -> plain.portHeight(port, at));
            }
        }
        due.same("calls of one object", calls <= CALLS, true);
    }

    private void windows() {
        makeFull();
        for (int number = -1; number < 6; number++) {
            int port = number;
            for (int level = -60000; level <= 60000; level += 10000) {
                int least = level;
                for (int what = 0; what <= 3; what++) {
                    int asked = what;
                    same("windows", () -> x.windows(port, least, 0, 4319, asked),
                            () -> plain.windows(port, least, 0, 4319, asked));
                }
            }
        }
        due.same("calls of one object", calls <= CALLS, true);
    }

    private void readings() {
        makeFull();
        due.sameDouble("residual", x.residual(), plain.residual());
        same("worst", x::worst, plain::worst);
        same("adjust", x::adjust, plain::adjust);
        same("readings", () -> x.count(3), () -> plain.count(3));
        same("digest", x::digest, plain::digest);
    }

    /** The dearest calls up to the last one: each change of a range asks for the whole table anew. */
    private void lastCall() {
        makeFull();
        while (calls < CALLS - 1) {
            int wave = calls % 8;
            int range = 5000 - calls;
            same("setRange", () -> x.setRange(wave, range), () -> plain.setRange(wave, range));
            if (calls < CALLS) {
                same("digest", x::digest, plain::digest);
            }
        }
        while (calls < CALLS) {
            same("digest at last", x::digest, plain::digest);
        }
        due.same("calls of one object", calls, CALLS);
    }
}
