/** Promises 11 to 17, with answers reckoned by hand from the document. */
public final class OtherPortsTest {
    private static final int LEAST = Integer.MIN_VALUE;
    private static final int MOST = Integer.MAX_VALUE;

    private final Due due = new Due();

    public static void main(String[] args) {
        OtherPortsTest test = new OtherPortsTest();
        test.promise11AddPort();
        test.promise12SetPort();
        test.promise13SetAddition();
        test.promise14IsInOrder();
        test.promise14UnevenWaters();
        test.promise15PortWater();
        test.promise15Cuts();
        test.promise16PortHeight();
        test.promise16ShiftedPort();
        test.promise16NotTold();
        test.promise17ChiefPort();
        test.promise17OtherPort();
        test.promise17Wrong();
        test.due.end("OtherPortsTest");
    }

    /** A port of a tide with highs of 1000 at 100, 500 ..., and lows of -1000 at 300, 700 ... */
    private static TideTable evenTide() {
        TideTable x = new TideTable();
        x.addWave(1000, 400, 0);
        x.addPort();
        return x;
    }

    private void promise11AddPort() {
        TideTable x = evenTide();
        due.same("time at a new port", x.portWater(0, 0, true), 100);
        due.same("height at a new port", x.portWater(0, 1, false), -1000);
        due.same("factor for highs of a new port", x.setPort(0, true, 0, 100), 100);
        due.same("factor for lows of a new port", x.setPort(0, false, 0, 100), 100);
        due.same("addition of a new port", x.setAddition(0, 0), 0);
        for (int number = 1; number < 6; number++) {
            due.same("addPort " + number, x.addPort(), number);
        }
        due.noState("a seventh port", x::addPort);
        due.same("ports after the seventh", x.count(2), 6);
    }

    private void promise12SetPort() {
        TideTable x = evenTide();
        x.addPort();
        due.same("setPort highs", x.setPort(0, true, 300, 0), 100);
        due.same("setPort highs again", x.setPort(0, true, -300, 300), 0);
        due.same("setPort lows", x.setPort(0, false, -300, 300), 100);
        due.same("setPort lows again", x.setPort(0, false, 300, 0), 300);
        due.same("time of the high", x.portWater(0, 0, true), -200);
        due.same("height of the high", x.portWater(0, 0, false), 3000);
        due.same("time of the low", x.portWater(0, 1, true), 600);
        due.same("height of the low", x.portWater(0, 1, false), 0);
        due.same("time at the other port", x.portWater(1, 0, true), 100);
        due.noIndex("setPort(2, ..)", () -> x.setPort(2, true, 0, 0));
        due.noIndex("setPort(-1, .., 301, 301)", () -> x.setPort(-1, true, 301, 301));
        due.noIndex("setPort(MIN, ..)", () -> x.setPort(LEAST, false, 0, 0));
        due.noArgument("shift 301", () -> x.setPort(0, true, 301, 0));
        due.noArgument("shift -301", () -> x.setPort(0, false, -301, 0));
        due.noArgument("shift MIN", () -> x.setPort(0, false, LEAST, 0));
        due.noArgument("factor 301", () -> x.setPort(0, true, 0, 301));
        due.noArgument("factor -1", () -> x.setPort(0, false, 0, -1));
        due.same("the high after wrong calls", x.portWater(0, 0, true), -200);
        due.same("factor after wrong calls", x.setPort(0, true, 0, 1), 300);
    }

    private void promise13SetAddition() {
        TideTable x = evenTide();
        x.addPort();
        due.same("setAddition(0, 3000)", x.setAddition(0, 3000), 0);
        due.same("high with addition", x.portWater(0, 0, false), 4000);
        due.same("low with addition", x.portWater(0, 1, false), 2000);
        due.same("high of the other port", x.portWater(1, 0, false), 1000);
        due.same("setAddition(0, -3000)", x.setAddition(0, -3000), 3000);
        due.noIndex("setAddition(2, 0)", () -> x.setAddition(2, 0));
        due.noIndex("setAddition(-1, 3001)", () -> x.setAddition(-1, 3001));
        due.noArgument("setAddition(0, 3001)", () -> x.setAddition(0, 3001));
        due.noArgument("setAddition(1, -3001)", () -> x.setAddition(1, -3001));
        due.same("addition after wrong calls", x.setAddition(0, 0), -3000);
    }

    private void promise14IsInOrder() {
        TideTable x = evenTide();
        due.same("a new port is in order", x.isInOrder(0), true);
        x.setPort(0, true, 199, 100);
        due.same("highs one minute ahead of the lows", x.isInOrder(0), true);
        x.setPort(0, true, 200, 100);
        due.same("highs together with the lows behind", x.isInOrder(0), false);
        x.setPort(0, true, -199, 100);
        due.same("highs one minute behind the lows", x.isInOrder(0), true);
        x.setPort(0, true, -200, 100);
        due.same("highs together with the lows ahead", x.isInOrder(0), false);
        x.setPort(0, false, -200, 100);
        due.same("highs and lows shifted alike", x.isInOrder(0), true);
        x.setPort(0, false, -300, 100);
        x.setRange(0, 0);
        due.same("no waters are in order", x.isInOrder(0), true);
        due.noIndex("isInOrder(-1)", () -> x.isInOrder(-1) ? 1 : 0);
        due.noIndex("isInOrder(1)", () -> x.isInOrder(1) ? 1 : 0);
        due.noIndex("isInOrder(MAX)", () -> x.isInOrder(MOST) ? 1 : 0);
        TideTable late = new TideTable();
        late.addWave(5000, 8000, 0);
        late.addPort();
        late.setPort(0, true, 300, 100);
        due.same("one water is in order", late.isInOrder(0), true);
    }

    /** Of these waters some are a minute apart, and the first two are so at other ranges too. */
    private void promise14UnevenWaters() {
        for (int range = 500; range >= 0; range -= 100) {
            for (int shift = -300; shift <= 300; shift++) {
                TideTable x = new TideTable();
                x.addWave(2000, 745, 0);
                x.addWave(range, 720, 100);
                x.addPort();
                x.setPort(0, true, shift, 100);
                due.same("isInOrder at shift " + shift, x.isInOrder(0), areInOrder(x, shift));
            }
        }
    }

    private static boolean areInOrder(TideTable x, int highShift) {
        for (int water = 1; water < x.count(1); water++) {
            int ahead = x.water(water - 1, 0) + highShift * x.water(water - 1, 2);
            int here = x.water(water, 0) + highShift * x.water(water, 2);
            if (here <= ahead) {
                return false;
            }
        }
        return true;
    }

    private void promise15PortWater() {
        TideTable x = evenTide();
        x.setPort(0, true, 10, 150);
        x.setPort(0, false, -20, 33);
        x.setAddition(0, -7);
        due.same("time of high 0", x.portWater(0, 0, true), 110);
        due.same("height of high 0", x.portWater(0, 0, false), 1493);
        due.same("time of low 21", x.portWater(0, 21, true), 4280);
        due.same("height of low 21", x.portWater(0, 21, false), -337);
        x.setPort(0, true, -300, 0);
        x.setPort(0, false, 300, 0);
        due.same("time less than 0", x.portWater(0, 0, true), -200);
        due.same("time greater than 4319", x.portWater(0, 21, true), 4600);
        due.same("waters out of order are told", x.portWater(0, 2, true), 200);
        due.noIndex("portWater(0, 22, true)", () -> x.portWater(0, 22, true));
        due.noIndex("portWater(0, -1, false)", () -> x.portWater(0, -1, false));
        due.noIndex("portWater(1, 0, true)", () -> x.portWater(1, 0, true));
        due.noIndex("portWater(-1, 0, true)", () -> x.portWater(-1, 0, true));
        due.noIndex("portWater(0, MIN, true)", () -> x.portWater(0, LEAST, true));
    }

    /** Only the multiplied height is divided, and the addition comes to what is left of it. */
    private void promise15Cuts() {
        TideTable x = evenTide();
        x.setLevel(5);
        x.setPort(0, true, 0, 33);
        x.setPort(0, false, 0, 33);
        due.same("331.65 is cut", x.portWater(0, 0, false), 331);
        due.same("-328.35 is cut towards 0", x.portWater(0, 1, false), -328);
        x.setAddition(0, 400);
        due.same("the addition to -328", x.portWater(0, 1, false), 72);
        x.setAddition(0, -400);
        due.same("the addition to 331", x.portWater(0, 0, false), -69);
    }

    private void promise16PortHeight() {
        TideTable x = evenTide();
        int[][] dueHeights = {
            {100, 1000}, {101, 995}, {133, 835}, {134, 827}, {166, 507}, {167, 495}, {199, 15},
            {200, 0}, {201, -15}, {233, -495}, {234, -506}, {266, -826}, {267, -835}, {299, -995},
            {300, -1000}, {301, -995}, {400, 0}, {500, 1000}, {4299, -995},
        };
        for (int[] one : dueHeights) {
            due.same("portHeight(0, " + one[0] + ")", x.portHeight(0, one[0]), one[1]);
        }
        due.noIndex("portHeight(1, 100)", () -> x.portHeight(1, 100));
        due.noIndex("portHeight(-1, 4320)", () -> x.portHeight(-1, 4320));
        due.noArgument("portHeight(0, -1)", () -> x.portHeight(0, -1));
        due.noArgument("portHeight(0, 4320)", () -> x.portHeight(0, 4320));
        due.noArgument("portHeight(0, MIN)", () -> x.portHeight(0, LEAST));
        // Out of order as well, but the exception that is named first is thrown.
        x.setPort(0, true, 200, 100);
        due.noArgument("a wrong time out of order", () -> x.portHeight(0, 4320));
        due.noIndex("no such port out of order", () -> x.portHeight(1, 100));
    }

    private void promise16ShiftedPort() {
        TideTable x = evenTide();
        x.setPort(0, true, -300, 300);
        x.setPort(0, false, 1, 201);
        due.same("low behind the next high", x.isInOrder(0), false);
        due.noState("its height", () -> x.portHeight(0, 100));
        x.setPort(0, true, -150, 300);
        // High of 3000 at -50, low of -2010 at 301: D is 351, e is 50 at minute 0, s is 0.
        due.same("height at minute 0", x.portHeight(0, 0), 3000 - 5010 * 300 / 4212);
        due.same("height at minute 9, s = 1", x.portHeight(0, 9), 3000 - 5010 * 357 / 4212);
        due.same("height at minute 301", x.portHeight(0, 301), -2010);
        // Low of -2010 at 301, high of 3000 at 350: D is 49, e is 48, s is 5.
        due.same("height at minute 349", x.portHeight(0, 349), -2010 + 5010 * 582 / 588);
        due.same("height at minute 350", x.portHeight(0, 350), 3000);
    }

    private void promise16NotTold() {
        TideTable x = evenTide();
        due.noState("ahead of the first water", () -> x.portHeight(0, 99));
        due.noState("at the last water", () -> x.portHeight(0, 4300));
        due.noState("behind the last water", () -> x.portHeight(0, 4319));
        x.setPort(0, true, 200, 100);
        due.noState("out of order", () -> x.portHeight(0, 1000));
        TideTable one = new TideTable();
        one.addWave(5000, 8000, 0);
        one.addPort();
        due.noState("one water alone", () -> one.portHeight(0, 2000));
        TideTable none = new TideTable();
        none.addPort();
        due.noState("no waters", () -> none.portHeight(0, 0));
        // Every minute is told where the waters reach past both ends.
        TideTable all = evenTide();
        all.addWave(0, 60, 0);
        all.setPort(0, true, -100, 100);
        all.setPort(0, false, 20, 100);
        due.same("the first minute", all.portHeight(0, 0), 1000);
        due.same("the last minute", all.portHeight(0, 4319), 1000 - 2000 * 3834 / 3840);
        due.same("its last water", all.portWater(0, 21, true), 4320);
    }

    private void sameWindows(String what, TideTable x, int[] call, int[] want) {
        for (int asked = 0; asked <= 3; asked++) {
            due.same(what + ", " + asked, x.windows(call[0], call[1], call[2], call[3], asked),
                    want[asked]);
        }
    }

    private void promise17ChiefPort() {
        TideTable x = evenTide();
        int[][][] dueWindows = {
            {{-1, 0, 0, 4319}, {11, 2211, 0, 201}},
            {{-1, 1, 0, 4319}, {11, 2189, 1, 199}},
            {{-1, 1000, 0, 4319}, {11, 11, 100, 1}},
            {{-1, 1001, 0, 4319}, {0, 0, -1, 0}},
            {{-1, LEAST, 0, 4319}, {1, 4320, 0, 4320}},
            {{-1, MOST, 0, 4319}, {0, 0, -1, 0}},
            {{-1, 0, 100, 500}, {2, 202, 100, 101}},
            {{-1, 0, 150, 500}, {2, 152, 150, 101}},
            {{-1, 0, 100, 420}, {2, 122, 100, 101}},
            {{-1, 0, 201, 399}, {0, 0, -1, 0}},
            {{-1, 0, 200, 200}, {1, 1, 200, 1}},
            {{-1, 0, 201, 201}, {0, 0, -1, 0}},
            {{-1, -1000, 4319, 4319}, {1, 1, 4319, 1}},
        };
        for (int[][] one : dueWindows) {
            sameWindows("windows(-1, " + one[0][1] + ", " + one[0][2] + ", " + one[0][3] + ")",
                    x, one[0], one[1]);
        }
    }

    private void promise17OtherPort() {
        TideTable x = evenTide();
        sameWindows("all told minutes", x, new int[] {0, LEAST, 0, 4319},
                new int[] {1, 4200, 100, 4200});
        sameWindows("not told ones alone", x, new int[] {0, LEAST, 0, 99},
                new int[] {0, 0, -1, 0});
        sameWindows("the last told one", x, new int[] {0, LEAST, 4299, 4319},
                new int[] {1, 1, 4299, 1});
        sameWindows("one minute", x, new int[] {0, 1000, 100, 100}, new int[] {1, 1, 100, 1});
        // From high 100 to minute 200, from 400 to 600, and so on; the last from 4000 to 4200.
        sameWindows("at least 0", x, new int[] {0, 0, 0, 4319},
                new int[] {11, 101 + 10 * 201, 100, 201});
        x.setPort(0, true, 200, 100);
        sameWindows("out of order", x, new int[] {0, LEAST, 0, 4319}, new int[] {0, 0, -1, 0});
        sameWindows("the chief port stays", x, new int[] {-1, LEAST, 0, 4319},
                new int[] {1, 4320, 0, 4320});
        TideTable none = new TideTable();
        none.addPort();
        sameWindows("no waters", none, new int[] {0, LEAST, 0, 4319}, new int[] {0, 0, -1, 0});
    }

    private void promise17Wrong() {
        TideTable x = evenTide();
        due.noIndex("port -2", () -> x.windows(-2, 0, 0, 0, 0));
        due.noIndex("port 1", () -> x.windows(1, 0, 0, 0, 0));
        due.noIndex("port MIN", () -> x.windows(LEAST, 0, 0, 0, 0));
        due.noIndex("what -1", () -> x.windows(-1, 0, 0, 0, -1));
        due.noIndex("what 4", () -> x.windows(0, 0, 0, 0, 4));
        due.noIndex("what 4 and a wrong time", () -> x.windows(0, 0, -1, 0, 4));
        due.noIndex("port 1 and a wrong time", () -> x.windows(1, 0, -1, 0, 0));
        due.noArgument("from -1", () -> x.windows(-1, 0, -1, 0, 0));
        due.noArgument("from behind to", () -> x.windows(0, 0, 5, 4, 0));
        due.noArgument("to 4320", () -> x.windows(-1, 0, 0, 4320, 0));
        due.noArgument("from MIN", () -> x.windows(0, 0, LEAST, 0, 0));
        due.noArgument("to MAX", () -> x.windows(0, 0, 0, MOST, 0));
    }
}
