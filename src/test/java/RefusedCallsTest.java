import java.util.function.Supplier;

/**
 * The two sentences on exceptions: "A method that throws an exception changes nothing. If several
 * exceptions apply, the one that is named first is thrown." Each method that throws is here with
 * each of its exceptions, and with all that can apply together.
 */
public final class RefusedCallsTest {
    private static final Class<? extends RuntimeException> INDEX = IndexOutOfBoundsException.class;
    private static final Class<? extends RuntimeException> ARGUMENT =
            IllegalArgumentException.class;
    private static final Class<? extends RuntimeException> STATE = IllegalStateException.class;

    /** A call that is to be refused. */
    private interface Call {
        void on(TideTable x);
    }

    private final Due due = new Due();

    public static void main(String[] args) {
        RefusedCallsTest test = new RefusedCallsTest();
        test.addWave();
        test.setRange();
        test.setLevel();
        test.questionsOfTheChiefPort();
        test.addPort();
        test.setPort();
        test.setAddition();
        test.questionsOfPorts();
        test.portHeight();
        test.windows();
        test.read();
        test.adjust();
        test.callsBehindRefusedOnes();
        test.due.end("RefusedCallsTest");
    }

    private void refused(String what, Class<? extends RuntimeException> want,
            Supplier<TideTable> made, Call call) {
        TideTable x = made.get();
        String before = Tides.everything(x);
        due.throwsJust(what, want, () -> {
            call.on(x);
            return 0;
        });
        due.same(what + ", all behind it", Tides.everything(x), before);
    }

    /** The first call of a new object, too, when no table was reckoned yet. */
    private void refusedAtFirst(String what, Class<? extends RuntimeException> want,
            Supplier<TideTable> made, Call call) {
        TideTable x = made.get();
        due.throwsJust(what + ", at first", want, () -> {
            call.on(x);
            return 0;
        });
        due.same(what + ", all behind it", Tides.everything(x), Tides.everything(made.get()));
    }

    private void refusedAlways(String what, Class<? extends RuntimeException> want,
            Supplier<TideTable> made, Call call) {
        refused(what, want, made, call);
        refusedAtFirst(what, want, made, call);
    }

    /** One wave, one port and one reading. */
    private static TideTable some() {
        TideTable x = Tides.evenWithPort();
        x.setPort(0, true, 12, 90);
        x.setPort(0, false, 15, 110);
        x.setAddition(0, 33);
        x.setLevel(40);
        x.read(100, 1100);
        return x;
    }

    private static TideTable outOfOrder() {
        TideTable x = some();
        x.setPort(0, true, 300, 90);
        return x;
    }

    private void addWave() {
        refusedAlways("a wave of range -1", ARGUMENT, RefusedCallsTest::some,
                x -> x.addWave(-1, 400, 0));
        refusedAlways("a wave of range 5001", ARGUMENT, RefusedCallsTest::some,
                x -> x.addWave(5001, 400, 0));
        refusedAlways("a wave of period 59", ARGUMENT, RefusedCallsTest::some,
                x -> x.addWave(100, 59, 0));
        refusedAlways("a wave of period 20001", ARGUMENT, RefusedCallsTest::some,
                x -> x.addWave(100, 20001, 0));
        refusedAlways("a wave of offset -1", ARGUMENT, RefusedCallsTest::some,
                x -> x.addWave(100, 400, -1));
        refusedAlways("a wave of offset 400", ARGUMENT, RefusedCallsTest::some,
                x -> x.addWave(100, 400, 400));
        refusedAlways("a ninth wave", STATE, Tides::full, x -> x.addWave(100, 400, 0));
        refusedAlways("a ninth wave of range -1", ARGUMENT, Tides::full,
                x -> x.addWave(-1, 400, 0));
        refusedAlways("a ninth wave of range 5001", ARGUMENT, Tides::full,
                x -> x.addWave(5001, 400, 0));
        refusedAlways("a ninth wave of period 59", ARGUMENT, Tides::full,
                x -> x.addWave(100, 59, 0));
        refusedAlways("a ninth wave of period 20001", ARGUMENT, Tides::full,
                x -> x.addWave(100, 20001, 0));
        refusedAlways("a ninth wave of offset -1", ARGUMENT, Tides::full,
                x -> x.addWave(100, 400, -1));
        refusedAlways("a ninth wave of offset 400", ARGUMENT, Tides::full,
                x -> x.addWave(100, 400, 400));
    }

    private void setRange() {
        refusedAlways("range of no wave", INDEX, TideTable::new, x -> x.setRange(0, 1));
        refusedAlways("range of wave -1", INDEX, RefusedCallsTest::some, x -> x.setRange(-1, 1));
        refusedAlways("range of wave 1", INDEX, RefusedCallsTest::some, x -> x.setRange(1, 1));
        refusedAlways("range of wave 8", INDEX, Tides::full, x -> x.setRange(8, 1));
        refusedAlways("range -1", ARGUMENT, RefusedCallsTest::some, x -> x.setRange(0, -1));
        refusedAlways("range 5001", ARGUMENT, Tides::full, x -> x.setRange(7, 5001));
        refusedAlways("range -1 of wave -1", INDEX, RefusedCallsTest::some,
                x -> x.setRange(-1, -1));
        refusedAlways("range 5001 of wave 1", INDEX, RefusedCallsTest::some,
                x -> x.setRange(1, 5001));
    }

    private void setLevel() {
        refusedAlways("level 10001", ARGUMENT, RefusedCallsTest::some, x -> x.setLevel(10001));
        refusedAlways("level -10001", ARGUMENT, RefusedCallsTest::some, x -> x.setLevel(-10001));
    }

    private void questionsOfTheChiefPort() {
        refusedAlways("height", ARGUMENT, RefusedCallsTest::some, x -> x.height(4320));
        refusedAlways("waveHeight of wave 1", INDEX, RefusedCallsTest::some,
                x -> x.waveHeight(1, 0));
        refusedAlways("waveHeight at 4320", ARGUMENT, RefusedCallsTest::some,
                x -> x.waveHeight(0, 4320));
        refusedAlways("waveHeight of wave 1 at 4320", INDEX, RefusedCallsTest::some,
                x -> x.waveHeight(1, 4320));
        refusedAlways("waveHeight of wave -1 at -1", INDEX, RefusedCallsTest::some,
                x -> x.waveHeight(-1, -1));
        refusedAlways("waveHeight of no wave at -1", INDEX, TideTable::new,
                x -> x.waveHeight(0, -1));
        refusedAlways("count", INDEX, RefusedCallsTest::some, x -> x.count(4));
        refusedAlways("water 22", INDEX, RefusedCallsTest::some, x -> x.water(22, 0));
        refusedAlways("what 3 of a water", INDEX, RefusedCallsTest::some, x -> x.water(0, 3));
        refusedAlways("next at -1", ARGUMENT, RefusedCallsTest::some, x -> x.next(-1, true));
        refusedAlways("next at 4320", ARGUMENT, RefusedCallsTest::some, x -> x.next(4320, false));
        refusedAlways("datum", INDEX, RefusedCallsTest::some, x -> x.datum(5));
    }

    private void addPort() {
        refusedAlways("a seventh port", STATE, Tides::full, TideTable::addPort);
    }

    private void setPort() {
        refusedAlways("no port", INDEX, Tides::even, x -> x.setPort(0, true, 1, 1));
        refusedAlways("port -1", INDEX, RefusedCallsTest::some, x -> x.setPort(-1, true, 1, 1));
        refusedAlways("port 1", INDEX, RefusedCallsTest::some, x -> x.setPort(1, false, 1, 1));
        refusedAlways("port 6", INDEX, Tides::full, x -> x.setPort(6, true, 1, 1));
        for (boolean isHigh : new boolean[] {true, false}) {
            refusedAlways("shift 301, factor 1", ARGUMENT, RefusedCallsTest::some,
                    x -> x.setPort(0, isHigh, 301, 1));
            refusedAlways("shift -301, factor 1", ARGUMENT, RefusedCallsTest::some,
                    x -> x.setPort(0, isHigh, -301, 1));
            refusedAlways("shift 1, factor 301", ARGUMENT, RefusedCallsTest::some,
                    x -> x.setPort(0, isHigh, 1, 301));
            refusedAlways("shift 1, factor -1", ARGUMENT, RefusedCallsTest::some,
                    x -> x.setPort(0, isHigh, 1, -1));
            refusedAlways("shift 301 of port 1", INDEX, RefusedCallsTest::some,
                    x -> x.setPort(1, isHigh, 301, 1));
            refusedAlways("factor -1 of port -1", INDEX, RefusedCallsTest::some,
                    x -> x.setPort(-1, isHigh, 1, -1));
        }
    }

    private void setAddition() {
        refusedAlways("addition of no port", INDEX, Tides::even, x -> x.setAddition(0, 1));
        refusedAlways("addition of port -1", INDEX, RefusedCallsTest::some,
                x -> x.setAddition(-1, 1));
        refusedAlways("addition of port 6", INDEX, Tides::full, x -> x.setAddition(6, 1));
        refusedAlways("addition 3001", ARGUMENT, RefusedCallsTest::some,
                x -> x.setAddition(0, 3001));
        refusedAlways("addition -3001", ARGUMENT, RefusedCallsTest::some,
                x -> x.setAddition(0, -3001));
        refusedAlways("addition 3001 of port 1", INDEX, RefusedCallsTest::some,
                x -> x.setAddition(1, 3001));
        refusedAlways("addition -3001 of port -1", INDEX, RefusedCallsTest::some,
                x -> x.setAddition(-1, -3001));
    }

    private void questionsOfPorts() {
        refusedAlways("isInOrder", INDEX, RefusedCallsTest::some, x -> x.isInOrder(1));
        refusedAlways("portWater of port 1", INDEX, RefusedCallsTest::some,
                x -> x.portWater(1, 0, true));
        refusedAlways("portWater of water 22", INDEX, RefusedCallsTest::some,
                x -> x.portWater(0, 22, true));
        refusedAlways("portWater of neither", INDEX, RefusedCallsTest::some,
                x -> x.portWater(-1, -1, false));
    }

    private void portHeight() {
        refusedAlways("portHeight of port 1", INDEX, RefusedCallsTest::some,
                x -> x.portHeight(1, 1000));
        refusedAlways("portHeight at 4320", ARGUMENT, RefusedCallsTest::some,
                x -> x.portHeight(0, 4320));
        refusedAlways("portHeight ahead of all waters", STATE, RefusedCallsTest::some,
                x -> x.portHeight(0, 0));
        refusedAlways("portHeight behind all waters", STATE, RefusedCallsTest::some,
                x -> x.portHeight(0, 4319));
        refusedAlways("portHeight out of order", STATE, RefusedCallsTest::outOfOrder,
                x -> x.portHeight(0, 1000));
        refusedAlways("portHeight of port 1 at 4320", INDEX, RefusedCallsTest::some,
                x -> x.portHeight(1, 4320));
        refusedAlways("portHeight of port -1 at -1", INDEX, RefusedCallsTest::outOfOrder,
                x -> x.portHeight(-1, -1));
        refusedAlways("portHeight at 4320 out of order", ARGUMENT, RefusedCallsTest::outOfOrder,
                x -> x.portHeight(0, 4320));
        refusedAlways("portHeight at -1 out of order", ARGUMENT, RefusedCallsTest::outOfOrder,
                x -> x.portHeight(0, -1));
        refusedAlways("portHeight of port 1 ahead of all waters", INDEX, RefusedCallsTest::some,
                x -> x.portHeight(1, 0));
    }

    private void windows() {
        refusedAlways("windows of port 1", INDEX, RefusedCallsTest::some,
                x -> x.windows(1, 0, 0, 10, 0));
        refusedAlways("windows of what 4", INDEX, RefusedCallsTest::some,
                x -> x.windows(0, 0, 0, 10, 4));
        refusedAlways("windows from -1", ARGUMENT, RefusedCallsTest::some,
                x -> x.windows(0, 0, -1, 10, 0));
        refusedAlways("windows from 11 to 10", ARGUMENT, RefusedCallsTest::some,
                x -> x.windows(-1, 0, 11, 10, 0));
        refusedAlways("windows to 4320", ARGUMENT, RefusedCallsTest::some,
                x -> x.windows(-1, 0, 0, 4320, 0));
        refusedAlways("windows of port 1 from -1", INDEX, RefusedCallsTest::some,
                x -> x.windows(1, 0, -1, 10, 0));
        refusedAlways("windows of port -2 to 4320", INDEX, RefusedCallsTest::some,
                x -> x.windows(-2, 0, 0, 4320, 0));
        refusedAlways("windows of what 4 from 11 to 10", INDEX, RefusedCallsTest::some,
                x -> x.windows(0, 0, 11, 10, 4));
        refusedAlways("windows of what -1 to 4320", INDEX, RefusedCallsTest::some,
                x -> x.windows(-1, 0, 0, 4320, -1));
        refusedAlways("windows of port 1, what 4, from -1", INDEX, RefusedCallsTest::some,
                x -> x.windows(1, 0, -1, 10, 4));
    }

    private void read() {
        refusedAlways("a reading at -1", ARGUMENT, RefusedCallsTest::some, x -> x.read(-1, 0));
        refusedAlways("a reading at 4320", ARGUMENT, RefusedCallsTest::some, x -> x.read(4320, 0));
        refusedAlways("a reading of 50001", ARGUMENT, RefusedCallsTest::some,
                x -> x.read(0, 50001));
        refusedAlways("a reading of -50001", ARGUMENT, RefusedCallsTest::some,
                x -> x.read(0, -50001));
        refusedAlways("a reading too many", STATE, Tides::full, x -> x.read(0, 50000));
        refusedAlways("a reading too many at -1", ARGUMENT, Tides::full, x -> x.read(-1, 0));
        refusedAlways("a reading too many at 4320", ARGUMENT, Tides::full, x -> x.read(4320, 0));
        refusedAlways("a reading too many of 50001", ARGUMENT, Tides::full,
                x -> x.read(0, 50001));
        refusedAlways("a reading too many of -50001", ARGUMENT, Tides::full,
                x -> x.read(0, -50001));
    }

    private static TideTable readTooHigh() {
        TideTable x = some();
        x.read(0, 25000);
        return x;
    }

    private static TideTable readTooLow() {
        TideTable x = some();
        x.read(0, -25000);
        return x;
    }

    private void adjust() {
        refusedAlways("adjust without readings", STATE, Tides::evenWithPort, TideTable::adjust);
        refusedAlways("adjust to more than 10000", STATE, RefusedCallsTest::readTooHigh,
                TideTable::adjust);
        refusedAlways("adjust to less than -10000", STATE, RefusedCallsTest::readTooLow,
                TideTable::adjust);
    }

    /** An object goes on behind refused calls as if there had been none. */
    private void callsBehindRefusedOnes() {
        TideTable x = new TideTable();
        due.noArgument("a wave", () -> x.addWave(1, 59, 0));
        due.same("the first wave", x.addWave(1000, 400, 0), 0);
        due.noArgument("a range", () -> x.setRange(0, 5001));
        due.same("the range before", x.setRange(0, 1000), 1000);
        due.noArgument("a level", () -> x.setLevel(10001));
        due.same("the level before", x.setLevel(0), 0);
        due.noIndex("a port", () -> x.setPort(0, true, 0, 0));
        due.same("the first port", x.addPort(), 0);
        due.noArgument("a factor", () -> x.setPort(0, true, 5, 301));
        due.same("the factor before", x.setPort(0, true, 0, 100), 100);
        due.noArgument("an addition", () -> x.setAddition(0, 3001));
        due.same("the addition before", x.setAddition(0, 0), 0);
        due.noArgument("a reading", () -> x.read(0, 50001));
        due.noState("nothing to adjust by", x::adjust);
        due.same("the first reading", x.read(0, 50000), 1);
        due.noState("too much to adjust by", x::adjust);
        due.same("the second reading", x.read(0, -50000), 2);
        due.same("nothing to raise", x.adjust(), 0);
        due.same("all as it was made", Tides.everything(x), Tides.everything(Tides.evenWithPort()));
    }
}
