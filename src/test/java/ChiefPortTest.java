/** Promises 1 to 10, with answers reckoned by hand from the document. */
public final class ChiefPortTest {
    private static final int LEAST = Integer.MIN_VALUE;
    private static final int MOST = Integer.MAX_VALUE;

    private final Due due = new Due();

    public static void main(String[] args) {
        ChiefPortTest test = new ChiefPortTest();
        test.promise1NewObject();
        test.promise2AddWave();
        test.promise2WrongWaves();
        test.promise3SetRange();
        test.promise4SetLevel();
        test.promise5Height();
        test.promise6WaveHeight();
        test.promise7Count();
        test.promise8Water();
        test.promise8LevelRowsOfMinutes();
        test.promise8EdgesOfTime();
        test.promise9Next();
        test.promise10Datum();
        test.promise10Means();
        test.due.end("ChiefPortTest");
    }

    /** Height v * (400 - v) / 40 at minute v / 2; highs at 100, 500 ..., lows at 300, 700 ... */
    private static TideTable evenTide() {
        TideTable x = new TideTable();
        x.addWave(1000, 400, 0);
        return x;
    }

    private void promise1NewObject() {
        TideTable x = new TideTable();
        for (int what = 0; what <= 3; what++) {
            due.same("new count(" + what + ")", x.count(what), 0);
        }
        for (int what = 0; what <= 4; what++) {
            due.same("new datum(" + what + ")", x.datum(what), 0);
        }
        due.same("new height(4319)", x.height(4319), 0);
        due.same("new setLevel(1)", x.setLevel(1), 0);
        TideTable other = evenTide();
        other.addPort();
        other.read(0, 0);
        due.same("waves of another object", x.count(0), 0);
        due.same("ports of another object", x.count(2), 0);
        due.same("readings of another object", x.count(3), 0);
    }

    private void promise2AddWave() {
        TideTable x = new TideTable();
        due.same("addWave least", x.addWave(0, 60, 0), 0);
        due.same("addWave most", x.addWave(5000, 20000, 19999), 1);
        due.same("addWave offset period - 1", x.addWave(5000, 60, 59), 2);
        due.same("the third wave's height", x.waveHeight(2, 1), 0);
        due.same("the third wave's height at 16", x.waveHeight(2, 16), 5000);
        for (int number = 3; number < 8; number++) {
            due.same("addWave " + number, x.addWave(1, 100, 99), number);
        }
        due.noState("a ninth wave", () -> x.addWave(1, 100, 0));
        due.noArgument("a ninth wave with a wrong range", () -> x.addWave(5001, 100, 0));
        due.noArgument("a ninth wave with a wrong offset", () -> x.addWave(1, 100, 100));
        due.same("waves after the ninth", x.count(0), 8);
    }

    private void promise2WrongWaves() {
        TideTable x = new TideTable();
        int[][] wrong = {
            {-1, 100, 0}, {5001, 100, 0}, {LEAST, 100, 0}, {MOST, 100, 0},
            {1, 59, 0}, {1, 20001, 0}, {1, 0, 0}, {1, -1, -2}, {1, LEAST, 0}, {1, MOST, 0},
            {1, 60, -1}, {1, 60, 60}, {1, 60, LEAST}, {1, 60, MOST}, {1, 20000, 20000},
        };
        for (int[] wave : wrong) {
            due.noArgument("addWave(" + wave[0] + ", " + wave[1] + ", " + wave[2] + ")",
                    () -> x.addWave(wave[0], wave[1], wave[2]));
        }
        due.same("waves after wrong ones", x.count(0), 0);
    }

    private void promise3SetRange() {
        TideTable x = evenTide();
        x.addWave(7, 60, 0);
        due.same("setRange(0, 0)", x.setRange(0, 0), 1000);
        due.same("height without the first wave", x.height(15), 7);
        due.same("setRange(0, 5000)", x.setRange(0, 5000), 0);
        due.same("setRange(0, 5000) again", x.setRange(0, 5000), 5000);
        due.same("height with the first wave", x.waveHeight(0, 100), 5000);
        due.same("the other wave's range", x.setRange(1, 8), 7);
        due.noIndex("setRange(-1, 0)", () -> x.setRange(-1, 0));
        due.noIndex("setRange(2, 0)", () -> x.setRange(2, 0));
        due.noIndex("setRange(MIN, MIN)", () -> x.setRange(LEAST, LEAST));
        due.noIndex("setRange(MAX, 5001)", () -> x.setRange(MOST, 5001));
        due.noArgument("setRange(0, -1)", () -> x.setRange(0, -1));
        due.noArgument("setRange(0, 5001)", () -> x.setRange(0, 5001));
        due.same("range after wrong calls", x.setRange(0, 1), 5000);
        due.noIndex("setRange without waves", () -> new TideTable().setRange(0, 0));
    }

    private void promise4SetLevel() {
        TideTable x = evenTide();
        due.same("setLevel(10000)", x.setLevel(10000), 0);
        due.same("high water on the level", x.water(0, 1), 11000);
        due.same("setLevel(-10000)", x.setLevel(-10000), 10000);
        due.same("high water on the lower level", x.water(0, 1), -9000);
        due.noArgument("setLevel(10001)", () -> x.setLevel(10001));
        due.noArgument("setLevel(-10001)", () -> x.setLevel(-10001));
        due.noArgument("setLevel(MIN)", () -> x.setLevel(LEAST));
        due.same("level after wrong calls", x.setLevel(0), -10000);
    }

    private void promise5Height() {
        TideTable x = evenTide();
        x.addWave(5000, 61, 0);
        x.setLevel(-3);
        // The short wave has v = 60 at 30, v = 1 of the lower half at 31, and there 37 at 4319.
        due.same("height(0)", x.height(0), -3);
        due.same("height(30)", x.height(30), -3 + 510 + 322);
        due.same("height(31)", x.height(31), -3 + 523 - 322);
        due.same("height(4319)", x.height(4319), -3 - 963 - 4772);
        due.noArgument("height(-1)", () -> x.height(-1));
        due.noArgument("height(4320)", () -> x.height(4320));
        due.noArgument("height(MIN)", () -> x.height(LEAST));
        due.noArgument("height(MAX)", () -> x.height(MOST));
    }

    private void promise6WaveHeight() {
        TideTable x = evenTide();
        x.setLevel(500);
        int[][] dueHeights = {
            {0, 0}, {1, 19}, {50, 750}, {100, 1000}, {199, 19}, {200, 0}, {201, -19}, {300, -1000},
            {399, -19}, {400, 0}, {401, 19}, {4300, -1000},
        };
        for (int[] one : dueHeights) {
            due.same("waveHeight(0, " + one[0] + ")", x.waveHeight(0, one[0]), one[1]);
        }
        x.addWave(5000, 20000, 19999);
        // v is 39998, which is 19998 behind the half turn: 4 * 5000 * 19998 * 2 / 400000000.
        due.same("waveHeight of a late offset", x.waveHeight(1, 0), -1);
        due.same("waveHeight of a late offset behind its turn", x.waveHeight(1, 1), 0);
        due.noIndex("waveHeight(2, 0)", () -> x.waveHeight(2, 0));
        due.noIndex("waveHeight(-1, -1)", () -> x.waveHeight(-1, -1));
        due.noIndex("waveHeight(MAX, 4320)", () -> x.waveHeight(MOST, 4320));
        due.noArgument("waveHeight(0, -1)", () -> x.waveHeight(0, -1));
        due.noArgument("waveHeight(1, 4320)", () -> x.waveHeight(1, 4320));
    }

    private void promise7Count() {
        TideTable x = evenTide();
        x.addWave(0, 60, 0);
        x.addPort();
        x.addPort();
        x.addPort();
        x.read(0, 0);
        due.same("count of waves", x.count(0), 2);
        due.same("count of waters", x.count(1), 22);
        due.same("count of ports", x.count(2), 3);
        due.same("count of readings", x.count(3), 1);
        due.noIndex("count(-1)", () -> x.count(-1));
        due.noIndex("count(4)", () -> x.count(4));
        due.noIndex("count(MIN)", () -> x.count(LEAST));
        due.noIndex("count(MAX)", () -> x.count(MOST));
    }

    private void promise8Water() {
        TideTable x = evenTide();
        for (int water = 0; water < 22; water++) {
            boolean isHigh = water % 2 == 0;
            due.same("time of water " + water, x.water(water, 0), 100 + 200 * water);
            due.same("height of water " + water, x.water(water, 1), isHigh ? 1000 : -1000);
            due.same("sort of water " + water, x.water(water, 2), isHigh ? 1 : 0);
        }
        due.noIndex("water(22, 0)", () -> x.water(22, 0));
        due.noIndex("water(-1, 0)", () -> x.water(-1, 0));
        due.noIndex("water(MIN, 0)", () -> x.water(LEAST, 0));
        due.noIndex("water(MAX, 0)", () -> x.water(MOST, 0));
        due.noIndex("water(0, 3)", () -> x.water(0, 3));
        due.noIndex("water(0, -1)", () -> x.water(0, -1));
        due.noIndex("water(0, MIN)", () -> x.water(0, LEAST));
        x.setRange(0, 0);
        due.noIndex("water(0, 0) of a flat tide", () -> x.water(0, 0));
        x.setRange(0, 1);
        due.same("waters of range 1", x.count(1), 22);
    }

    private void promise8LevelRowsOfMinutes() {
        // The heights stay on each of 0 to 3 for long on the way; only the top is a water.
        TideTable stair = new TideTable();
        stair.addWave(3, 4000, 0);
        due.same("waters of a stair", stair.count(1), 2);
        due.same("the stair's high", stair.water(0, 0), 1000);
        due.same("the stair's low", stair.water(1, 0), 3000);
        // v is 30 at minute 15 and 32 at minute 16, with the same height; lows likewise.
        TideTable flat = new TideTable();
        flat.addWave(1000, 62, 0);
        due.same("heights on the flat top", flat.height(15), flat.height(16));
        due.same("the flat high is at its first minute", flat.water(0, 0), 15);
        due.same("the flat low is at its first minute", flat.water(1, 0), 46);
        due.same("height of the flat high", flat.water(0, 1), 998);
    }

    private static TideTable shortWave(int period, int offset) {
        TideTable x = new TideTable();
        x.addWave(1000, period, offset);
        return x;
    }

    private void promise8EdgesOfTime() {
        due.same("a top at minute 0 is none", shortWave(60, 15).water(0, 2), 0);
        due.same("a top at minute 1 is one", shortWave(60, 14).water(0, 0), 1);
        due.same("a flat top from minute 0 is none", shortWave(62, 15).water(0, 2), 0);
        due.same("a flat top from minute 1 is one", shortWave(62, 14).water(0, 0), 1);
        TideTable last = shortWave(60, 17);
        due.same("a top at 4318 is one", last.water(last.count(1) - 1, 0), 4318);
        TideTable late = shortWave(60, 16);
        due.same("a top at 4319 is none", late.water(late.count(1) - 1, 0), 4289);
        TideTable flatEnd = shortWave(62, 37);
        due.same("a flat top up to the end is none", flatEnd.water(flatEnd.count(1) - 1, 2), 0);
        TideTable flatLast = shortWave(62, 38);
        due.same("a flat top up to 4318 is one", flatLast.water(flatLast.count(1) - 1, 0), 4317);
    }

    private void promise9Next() {
        TideTable x = evenTide();
        due.same("next(0, true)", x.next(0, true), 0);
        due.same("next(100, true)", x.next(100, true), 0);
        due.same("next(101, true)", x.next(101, true), 2);
        due.same("next(0, false)", x.next(0, false), 1);
        due.same("next(300, false)", x.next(300, false), 1);
        due.same("next(301, false)", x.next(301, false), 3);
        due.same("next(4100, true)", x.next(4100, true), 20);
        due.same("next(4101, true)", x.next(4101, true), -1);
        due.same("next(4300, false)", x.next(4300, false), 21);
        due.same("next(4319, false)", x.next(4319, false), -1);
        due.same("next of no waters", new TideTable().next(0, false), -1);
        due.noArgument("next(-1, true)", () -> x.next(-1, true));
        due.noArgument("next(4320, false)", () -> x.next(4320, false));
        due.noArgument("next(MIN, false)", () -> x.next(LEAST, false));
    }

    private void promise10Datum() {
        TideTable x = evenTide();
        x.setLevel(7);
        int[] dueDatums = {1007, -993, 1007, -993, 2000};
        for (int what = 0; what <= 4; what++) {
            due.same("datum(" + what + ")", x.datum(what), dueDatums[what]);
        }
        due.noIndex("datum(-1)", () -> x.datum(-1));
        due.noIndex("datum(5)", () -> x.datum(5));
        due.noIndex("datum(MIN)", () -> x.datum(LEAST));
        // A slow wave without waters: its greatest height is at the last minute.
        TideTable slow = new TideTable();
        slow.addWave(5000, 20000, 0);
        slow.setLevel(-100);
        due.same("greatest height at the last minute", slow.datum(0), slow.height(4319));
        due.same("least height at the first minute", slow.datum(1), -100);
        for (int what = 2; what <= 4; what++) {
            due.same("datum(" + what + ") without waters", slow.datum(what), 0);
        }
        // One high and one low behind it.
        TideTable two = new TideTable();
        two.addWave(3, 4000, 0);
        due.same("difference of two waters", two.datum(4), 6);
        two.addWave(1000, 400, 0);
        due.same("difference with a new wave", two.datum(4), 2001);
        // One high alone: no lows, and no two waters next to each other.
        TideTable one = new TideTable();
        one.addWave(5000, 8000, 0);
        due.same("mean of the one high", one.datum(2), 5000);
        due.same("mean of no lows", one.datum(3), 0);
        due.same("difference of one water", one.datum(4), 0);
    }

    /** The slow wave adds 1 from minute 1465 on, so 4 highs of 11 and 3 lows of 11 are without. */
    private void promise10Means() {
        TideTable x = evenTide();
        x.addWave(2, 20000, 0);
        due.same("the step is there", x.waveHeight(1, 1465) - x.waveHeight(1, 1464), 1);
        due.same("waters of the stepped tide", x.count(1), 22);
        due.same("greatest height", x.datum(0), 1001);
        due.same("least height", x.datum(1), -1000);
        due.same("mean of 11007 / 11", x.datum(2), 1000);
        due.same("mean of -10992 / 11, cut towards 0", x.datum(3), -999);
        due.same("greatest difference of neighbours", x.datum(4), 2000);
    }
}
