import java.math.BigInteger;

/**
 * The boundary cases that the document names for the readings and the checksum (promises 18 to 22),
 * each sentence in a method of its own. What calls throw together, and that they change nothing
 * then, is in RefusedCallsTest.
 */
public final class ReadingsEdgesTest {
    private static final int LEAST = Integer.MIN_VALUE;
    private static final int MOST = Integer.MAX_VALUE;

    private final Due due = new Due();

    public static void main(String[] args) {
        ReadingsEdgesTest test = new ReadingsEdgesTest();
        test.promise18TimeIs0To4319();
        test.promise18HeightIsWithin50000();
        test.promise18AtMostForty();
        test.promise18FortyAgainBehindAdjust();
        test.promise18SameTimeTwice();
        test.promise19NoneIs0();
        test.promise19FortyReadings();
        test.promise19GreatestAndLeast();
        test.promise19ByTheWavesOfNow();
        test.promise20NoneIsLess1();
        test.promise20WithoutSign();
        test.promise20OfSeveralTheFirst();
        test.promise20LastOfForty();
        test.promise20ByTheWavesOfNow();
        test.promise21NoReadings();
        test.promise21DividedIsCutTowards0();
        test.promise21LevelUpTo10000();
        test.promise21LevelDownToLess10000();
        test.promise21ForgetsAllReadings();
        test.promise21RaisesTheTable();
        test.promise22NewObject();
        test.promise22EmptyKinds();
        test.promise22WrapsAroundAt64Bits();
        test.promise22PortOutOfOrder();
        test.promise22FullObject();
        test.promise22ChangesNothing();
        test.due.end("ReadingsEdgesTest");
    }

    /** A tide of this level, without waves, and with readings of these heights. */
    private static TideTable readAt(int level, int... heights) {
        TideTable x = new TideTable();
        x.setLevel(level);
        for (int height : heights) {
            x.read(0, height);
        }
        return x;
    }

    /** "if time is not 0 to 4319". */
    private void promise18TimeIs0To4319() {
        TideTable x = Tides.even();
        due.same("read(0, 0)", x.read(0, 0), 1);
        due.same("read(4319, -963)", x.read(4319, -963), 2);
        due.sameDouble("both are as the tide is", x.residual(), 0.0);
        for (int time : new int[] {-1, 4320, LEAST, MOST}) {
            due.noArgument("read(" + time + ", 0)", () -> x.read(time, 0));
        }
        due.same("two readings still", x.count(3), 2);
    }

    /** "or height is not -50000 to 50000". */
    private void promise18HeightIsWithin50000() {
        TideTable x = Tides.even();
        due.same("read(0, 50000)", x.read(0, 50000), 1);
        due.sameDouble("50000 is noted", x.residual(), 50000.0);
        due.same("read(0, -50000)", x.read(0, -50000), 2);
        due.sameDouble("-50000 is noted", x.residual(), 0.0);
        for (int height : new int[] {-50001, 50001, LEAST, MOST}) {
            due.noArgument("read(0, " + height + ")", () -> x.read(0, height));
        }
        due.same("two readings still", x.count(3), 2);
    }

    /** "IllegalStateException if there are 40 readings"; "Returns the number of readings". */
    private void promise18AtMostForty() {
        TideTable x = Tides.even();
        for (int number = 1; number <= 40; number++) {
            due.same("read " + number, x.read(0, 0), number);
        }
        due.noState("a reading too many", () -> x.read(0, 0));
        due.noState("the greatest one too many", () -> x.read(4319, 50000));
        due.same("forty readings still", x.count(3), 40);
        due.same("none differs still", x.worst(), 0);
    }

    private void promise18FortyAgainBehindAdjust() {
        TideTable x = Tides.even();
        for (int number = 1; number <= 40; number++) {
            x.read(0, 0);
        }
        due.same("raised by nothing", x.adjust(), 0);
        for (int number = 1; number <= 40; number++) {
            due.same("read " + number + " again", x.read(0, 0), number);
        }
        due.noState("a reading too many again", () -> x.read(0, 0));
    }

    private void promise18SameTimeTwice() {
        TideTable x = Tides.even();
        due.same("once", x.read(7, 7), 1);
        due.same("twice", x.read(7, 7), 2);
        due.same("both are there", x.count(3), 2);
    }

    /** "0 if there are none". */
    private void promise19NoneIs0() {
        due.sameDouble("no readings", Tides.even().residual(), 0.0);
        due.sameDouble("no readings on a level", readAt(9).residual(), 0.0);
        TideTable forgotten = readAt(0, 5);
        forgotten.adjust();
        due.sameDouble("forgotten readings", forgotten.residual(), 0.0);
        due.sameDouble("a sum of 0", readAt(0, 5, -5).residual(), 0.0);
    }

    /** "the mean, over all readings": 1 to 40 have the sum 820. */
    private void promise19FortyReadings() {
        TideTable x = new TideTable();
        for (int number = 1; number <= 40; number++) {
            x.read(100 * number, number);
        }
        due.sameDouble("1 to 40", x.residual(), 20.5);
        due.sameDouble("one reading", readAt(0, -3).residual(), -3.0);
        due.sameDouble("a third", readAt(0, 0, 0, -1).residual(), -1.0 / 3.0);
    }

    private static TideTable highest(int level, int offset, int read) {
        TideTable x = new TideTable();
        for (int wave = 0; wave < 8; wave++) {
            x.addWave(5000, 400, offset);
        }
        x.setLevel(level);
        for (int number = 0; number < 40; number++) {
            x.read(100, read);
        }
        return x;
    }

    private void promise19GreatestAndLeast() {
        due.sameDouble("50000 less -50000", highest(-10000, 200, 50000).residual(), 100000.0);
        due.sameDouble("-50000 less 50000", highest(10000, 0, -50000).residual(), -100000.0);
    }

    /** "(as it is by the waves of now)". */
    private void promise19ByTheWavesOfNow() {
        TideTable x = new TideTable();
        x.read(100, 1000);
        due.sameDouble("without waves", x.residual(), 1000.0);
        x.addWave(1000, 400, 0);
        due.sameDouble("with a wave", x.residual(), 0.0);
        x.setRange(0, 5000);
        due.sameDouble("with a greater wave", x.residual(), -4000.0);
        x.setLevel(-1);
        due.sameDouble("on another level", x.residual(), -3999.0);
    }

    /** "-1 if there is none". */
    private void promise20NoneIsLess1() {
        due.same("no readings", Tides.even().worst(), -1);
        due.same("one that does not differ", readAt(0, 0).worst(), 0);
        TideTable forgotten = readAt(0, 5);
        forgotten.adjust();
        due.same("forgotten readings", forgotten.worst(), -1);
    }

    /** "that differs most (without sign)". */
    private void promise20WithoutSign() {
        due.same("-6 is more than 5", readAt(0, 5, -6).worst(), 1);
        due.same("-6 is more than 5, ahead of it", readAt(0, -6, 5).worst(), 0);
        due.same("-5 is less than 6", readAt(0, -5, 6).worst(), 1);
        due.same("the least and the greatest", readAt(1, 50000, -50000).worst(), 1);
    }

    /** "of several the first one". */
    private void promise20OfSeveralTheFirst() {
        due.same("alike", readAt(0, 5, 5, 5).worst(), 0);
        due.same("alike without sign", readAt(0, 1, -5, 5).worst(), 1);
        due.same("alike without sign, the other", readAt(0, 1, 5, -5).worst(), 1);
        due.same("none differs", readAt(3, 3, 3).worst(), 0);
    }

    private void promise20LastOfForty() {
        TideTable x = new TideTable();
        for (int number = 1; number <= 40; number++) {
            x.read(0, -number);
            due.same("the worst of " + number, x.worst(), number - 1);
        }
    }

    private void promise20ByTheWavesOfNow() {
        TideTable x = readAt(0, 10, -5);
        due.same("on level 0", x.worst(), 0);
        x.setLevel(10);
        due.same("on level 10", x.worst(), 1);
        x.setLevel(2);
        x.addWave(1, 400, 0);
        due.same("8 and -7", x.worst(), 0);
        x.setLevel(3);
        due.same("7 and -8", x.worst(), 1);
    }

    /** "IllegalStateException if there are no readings". */
    private void promise21NoReadings() {
        due.noState("a new object", () -> new TideTable().adjust());
        TideTable x = readAt(7, 8);
        due.same("one reading", x.adjust(), 1);
        due.noState("no readings any more", x::adjust);
        due.same("the level then", x.setLevel(0), 8);
    }

    private void adjusted(String what, TideTable x, int raised, int level) {
        due.same(what + ", raised", x.adjust(), raised);
        due.same(what + ", the level then", x.setLevel(0), level);
    }

    /** "divided by the number of readings", cut towards 0. */
    private void promise21DividedIsCutTowards0() {
        adjusted("1 / 2", readAt(0, 1, 0), 0, 0);
        adjusted("-1 / 2", readAt(0, -1, 0), 0, 0);
        adjusted("3 / 2", readAt(0, 3, 0), 1, 1);
        adjusted("-3 / 2", readAt(0, -3, 0), -1, -1);
        adjusted("-3 / 2 on a level above 0", readAt(100, 97, 100), -1, 99);
        adjusted("3 / 2 on a level below 0", readAt(-100, -97, -100), 1, -99);
        int[] many = new int[40];
        many[39] = 39;
        adjusted("39 / 40", readAt(0, many), 0, 0);
        many[39] = 40;
        adjusted("40 / 40", readAt(0, many), 1, 1);
        many[39] = -79;
        adjusted("-79 / 40", readAt(0, many), -1, -1);
        many[39] = -80;
        adjusted("-80 / 40", readAt(0, many), -2, -2);
    }

    private void notAdjusted(String what, TideTable x, int readings, int level) {
        due.noState(what, x::adjust);
        due.same(what + ", the readings stay", x.count(3), readings);
        due.same(what + ", the level stays", x.setLevel(0), level);
    }

    /** "or the level would not be -10000 to 10000", above; what is cut is looked at. */
    private void promise21LevelUpTo10000() {
        adjusted("up to 10000", readAt(0, 10000), 10000, 10000);
        adjusted("from -10000 to 10000", readAt(-10000, 10000), 20000, 10000);
        adjusted("by 0 at 10000", readAt(10000, 10000), 0, 10000);
        adjusted("by 10000.5, cut", readAt(0, 10001, 10000), 10000, 10000);
        adjusted("by 0.5 at 10000, cut", readAt(10000, 10001, 10000), 0, 10000);
        notAdjusted("up to 10001", readAt(0, 10001), 1, 0);
        notAdjusted("by 1 at 10000", readAt(10000, 10001), 1, 10000);
        notAdjusted("up to 50000", readAt(-10000, 50000, 50000), 2, -10000);
        notAdjusted("by 100000", highest(-10000, 200, 50000), 40, -10000);
    }

    private void promise21LevelDownToLess10000() {
        adjusted("down to -10000", readAt(0, -10000), -10000, -10000);
        adjusted("from 10000 to -10000", readAt(10000, -10000), -20000, -10000);
        adjusted("by 0 at -10000", readAt(-10000, -10000), 0, -10000);
        adjusted("by -10000.5, cut", readAt(0, -10001, -10000), -10000, -10000);
        adjusted("by -0.5 at -10000, cut", readAt(-10000, -10001, -10000), 0, -10000);
        notAdjusted("down to -10001", readAt(0, -10001), 1, 0);
        notAdjusted("by -1 at -10000", readAt(-10000, -10001), 1, -10000);
        notAdjusted("down to -50000", readAt(10000, -50000, -50000), 2, 10000);
        notAdjusted("by -100000", highest(10000, 0, -50000), 40, 10000);
    }

    /** "and forgets all readings". */
    private void promise21ForgetsAllReadings() {
        TideTable x = Tides.full();
        due.same("the mean of forty is 25.325", x.adjust(), 25);
        due.same("readings", x.count(3), 0);
        due.same("worst", x.worst(), -1);
        due.sameDouble("residual", x.residual(), 0.0);
        due.same("the first reading again", x.read(0, x.height(0)), 1);
        due.same("it does not differ", x.adjust(), 0);
        TideTable byNothing = readAt(0, 0, 0, 0);
        due.same("raised by nothing", byNothing.adjust(), 0);
        due.same("and yet forgotten", byNothing.count(3), 0);
    }

    /** "Raises the mean level": what was asked ahead of it is another answer behind it. */
    private void promise21RaisesTheTable() {
        TideTable x = Tides.evenWithPort();
        due.same("the high ahead", x.water(0, 1), 1000);
        x.read(0, 12);
        due.same("raised", x.adjust(), 12);
        due.same("the high behind", x.water(0, 1), 1012);
        due.same("the high of the port", x.portWater(0, 0, false), 1012);
        due.same("the greatest height", x.datum(0), 1012);
        due.same("the mean of the lows", x.datum(3), -988);
        due.same("the minutes of 1012", x.windows(-1, 1012, 0, 4319, 1), 11);
        due.same("a height", x.height(0), 12);
        due.same("the wave alone", x.waveHeight(0, 100), 1000);
    }

    private static BigInteger mixed(BigInteger d, long number) {
        return d.multiply(BigInteger.valueOf(31)).add(BigInteger.valueOf(number));
    }

    /** The checksum of all that the document names, as a number without bounds. */
    private static BigInteger wholeDigest(TideTable x, int level) {
        BigInteger d = BigInteger.valueOf(313);
        for (int what = 0; what <= 3; what++) {
            d = mixed(d, x.count(what));
        }
        d = mixed(d, level);
        int waters = x.count(1);
        for (int water = 0; water < waters; water++) {
            for (int what = 0; what <= 2; what++) {
                d = mixed(d, x.water(water, what));
            }
        }
        int ports = x.count(2);
        for (int port = 0; port < ports; port++) {
            d = mixed(d, x.isInOrder(port) ? 1 : 0);
            for (int water = 0; water < waters; water++) {
                d = mixed(d, x.portWater(port, water, true));
                d = mixed(d, x.portWater(port, water, false));
            }
        }
        for (int what = 0; what <= 4; what++) {
            d = mixed(d, x.datum(what));
        }
        return d;
    }

    /** "A number d starts with 313", and ten zeros follow: it does not wrap around yet. */
    private void promise22NewObject() {
        TideTable x = new TideTable();
        BigInteger d = BigInteger.valueOf(313).multiply(BigInteger.valueOf(31).pow(10));
        due.same("digest", x.digest(), d.longValueExact());
    }

    /** No waters and no ports: nothing stands between the level and the datums. */
    private void promise22EmptyKinds() {
        TideTable level = readAt(-5);
        due.same("a level alone", level.digest(), wholeDigest(level, -5).longValue());
        TideTable port = new TideTable();
        port.addPort();
        due.same("a port without waters", port.digest(), wholeDigest(port, 0).longValue());
        TideTable reading = readAt(0, 3, 4);
        due.same("readings alone", reading.digest(), wholeDigest(reading, 0).longValue());
        TideTable wave = Tides.of(0, 60, 0);
        due.same("a wave without waters", wave.digest(), wholeDigest(wave, 0).longValue());
    }

    /** "which wraps around as a 64-bit integer". */
    private void promise22WrapsAroundAt64Bits() {
        TideTable x = Tides.even();
        BigInteger d = wholeDigest(x, 0);
        due.same("more than 63 bits", d.bitLength() > 63, true);
        due.same("digest", x.digest(), d.longValue());
        TideTable low = Tides.oneLow();
        low.setLevel(-10000);
        due.same("digest of less than 0", low.digest(), wholeDigest(low, -10000).longValue());
    }

    /** "for each port 1 if it is in order, else 0", and its waters are in it all the same. */
    private void promise22PortOutOfOrder() {
        for (int shift = 199; shift <= 200; shift++) {
            TideTable x = Tides.evenWithPort();
            x.addPort();
            x.setPort(1, true, shift, 50);
            due.same("in order by " + shift, x.isInOrder(1), shift == 199);
            due.same("digest by " + shift, x.digest(), wholeDigest(x, 0).longValue());
        }
    }

    /** 8 waves, 6 ports and 40 readings, with waters few enough for the calls of one object. */
    private void promise22FullObject() {
        TideTable x = Tides.even();
        for (int wave = 1; wave < 8; wave++) {
            x.addWave(wave, 400, 50 * wave);
        }
        for (int port = 0; port < 6; port++) {
            x.addPort();
            x.setPort(port, port % 2 == 0, 40 * port, 50 * port);
        }
        for (int reading = 0; reading < 40; reading++) {
            x.read(reading, reading);
        }
        due.same("digest", x.digest(), wholeDigest(x, 0).longValue());
    }

    private void promise22ChangesNothing() {
        TideTable x = Tides.full();
        long digest = x.digest();
        due.same("the same again", x.digest(), digest);
        due.same("the readings stay", x.count(3), 40);
        x.setLevel(1);
        due.same("another level", x.digest() == digest, false);
        x.setLevel(0);
        due.same("the level as it was", x.digest(), digest);
    }
}
