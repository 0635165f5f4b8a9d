/**
 * The boundary cases that the document names for the chief port ('Waves' and 'Waters' of its terms,
 * promises 1 to 10), each sentence in a method of its own. What calls throw together, and that they
 * change nothing then, is in RefusedCallsTest.
 */
public final class ChiefPortEdgesTest {
    private static final int LEAST = Integer.MIN_VALUE;
    private static final int MOST = Integer.MAX_VALUE;

    private final Due due = new Due();

    public static void main(String[] args) {
        ChiefPortEdgesTest test = new ChiefPortEdgesTest();
        test.promise1NoWavesPortsAndReadings();
        test.promise1EachObjectAlone();
        test.wavesAreAtMostEight();
        test.wavesAreNumberedFrom0();
        test.rangeIs0To5000();
        test.periodIs60To20000();
        test.offsetIs0ToPeriodLess1();
        test.remainderWrapsAround();
        test.secondHalfBeginsAtThePeriod();
        test.betweenPlusAndMinusTheRange();
        test.dividedIsCutTowards0();
        test.reckonedIn64Bits();
        test.levelIsAtFirst0();
        test.heightIsOfAllWavesTogether();
        test.highIsAtMinute1To4318();
        test.lowIsAtMinute1To4318();
        test.waterIsNotAtAFlatBegin();
        test.waterIsAtTheFirstMinuteOfATop();
        test.waterNeedsAnotherHeightBehind();
        test.shoulderIsNoWater();
        test.flatTideHasNoWaters();
        test.highsAndLowsTakeTurns();
        test.watersAMinuteApart();
        test.promise3NoSuchWave();
        test.promise3RangeIs0To5000();
        test.promise4LevelIsWithin10000();
        test.promise5TimeIs0To4319();
        test.promise6NoSuchWave();
        test.promise6TimeIs0To4319();
        test.promise7WhatIs0To3();
        test.promise7EmptyAndFull();
        test.promise8NoSuchWater();
        test.promise8WhatIs0To2();
        test.promise9AtThisTimeOrBehind();
        test.promise9NoneIsLess1();
        test.promise9TimeIs0To4319();
        test.promise10OverAllMinutes();
        test.promise10NoHighsNoLows();
        test.promise10MeansAreCut();
        test.promise10DifferenceWithoutSign();
        test.promise10NoTwoWaters();
        test.promise10WhatIs0To4();
        test.due.end("ChiefPortEdgesTest");
    }

    /** "Creates a maker without waves, ports and readings." */
    private void promise1NoWavesPortsAndReadings() {
        TideTable x = new TideTable();
        for (int what = 0; what <= 3; what++) {
            due.same("new count(" + what + ")", x.count(what), 0);
        }
        for (int what = 0; what <= 4; what++) {
            due.same("new datum(" + what + ")", x.datum(what), 0);
        }
        due.same("new height(0)", x.height(0), 0);
        due.same("new height(4319)", x.height(4319), 0);
        due.noIndex("new setRange", () -> x.setRange(0, 0));
        due.noIndex("new waveHeight", () -> x.waveHeight(0, 0));
        due.noIndex("new water", () -> x.water(0, 0));
        due.same("new next high", x.next(0, true), -1);
        due.same("new next low", x.next(0, false), -1);
        due.noIndex("new setPort", () -> x.setPort(0, true, 0, 0));
        due.noIndex("new setAddition", () -> x.setAddition(0, 0));
        due.noIndex("new isInOrder", () -> x.isInOrder(0) ? 1 : 0);
        due.noIndex("new portWater", () -> x.portWater(0, 0, true));
        due.noIndex("new portHeight", () -> x.portHeight(0, 0));
        due.noIndex("new windows of a port", () -> x.windows(0, 0, 0, 4319, 0));
        due.same("new windows of the chief port", x.windows(-1, 0, 0, 4319, 1), 4320);
        due.sameDouble("new residual", x.residual(), 0.0);
        due.same("new worst", x.worst(), -1);
        due.noState("new adjust", x::adjust);
    }

    private void promise1EachObjectAlone() {
        TideTable x = new TideTable();
        TideTable other = Tides.full();
        other.setLevel(77);
        due.same("waves of the other", other.count(0), 8);
        due.same("waves", x.count(0), 0);
        due.same("waters", x.count(1), 0);
        due.same("ports", x.count(2), 0);
        due.same("readings", x.count(3), 0);
        due.same("level", x.setLevel(1), 0);
    }

    /** "There are at most 8"; "IllegalStateException if there are 8 waves". */
    private void wavesAreAtMostEight() {
        TideTable x = new TideTable();
        for (int number = 0; number < 8; number++) {
            due.same("waves ahead of " + number, x.count(0), number);
            x.addWave(0, 60, 0);
        }
        due.same("eight waves", x.count(0), 8);
        due.noState("a ninth wave", () -> x.addWave(0, 60, 0));
        due.noState("a ninth wave, the greatest", () -> x.addWave(5000, 20000, 19999));
        due.same("eight waves still", x.count(0), 8);
        due.noIndex("no wave 8", () -> x.waveHeight(8, 0));
    }

    /** "numbered from 0 in the order of their creation". */
    private void wavesAreNumberedFrom0() {
        TideTable x = new TideTable();
        for (int number = 0; number < 8; number++) {
            due.same("number " + number, x.addWave(100 + number, 400, 0), number);
        }
        for (int number = 0; number < 8; number++) {
            due.same("height of wave " + number, x.waveHeight(number, 100), 100 + number);
            due.same("range of wave " + number, x.setRange(number, 0), 100 + number);
        }
    }

    /** "A wave has a range, 0 to 5000". */
    private void rangeIs0To5000() {
        due.same("range 0", Tides.of(0, 400, 0).waveHeight(0, 100), 0);
        due.same("range 1", Tides.of(1, 400, 0).waveHeight(0, 100), 1);
        due.same("range 4999", Tides.of(4999, 400, 0).waveHeight(0, 100), 4999);
        due.same("range 5000", Tides.of(5000, 400, 0).waveHeight(0, 100), 5000);
        for (int range : new int[] {-1, 5001, -5000, LEAST, MOST}) {
            due.noArgument("range " + range, () -> Tides.of(range, 400, 0).count(0));
        }
    }

    /** "a period, 60 to 20000". */
    private void periodIs60To20000() {
        due.same("period 60", Tides.of(1000, 60, 0).waveHeight(0, 15), 1000);
        due.same("period 61", Tides.of(1000, 61, 0).waveHeight(0, 15), 999);
        due.same("period 19999", Tides.of(1000, 19999, 4000).waveHeight(0, 1000), 1000 - 1);
        due.same("period 20000", Tides.of(1000, 20000, 4000).waveHeight(0, 1000), 1000);
        for (int period : new int[] {59, 20001, 1, 0, -1, -60, LEAST, MOST}) {
            due.noArgument("period " + period, () -> Tides.of(1000, period, 0).count(0));
        }
    }

    /** "an offset, 0 to its period less 1". */
    private void offsetIs0ToPeriodLess1() {
        due.same("offset 0", Tides.of(1000, 60, 0).waveHeight(0, 15), 1000);
        due.same("offset 59 of 60", Tides.of(1000, 60, 59).waveHeight(0, 16), 1000);
        due.same("offset 60 of 61", Tides.of(1000, 61, 60).waveHeight(0, 16), 999);
        due.same("offset 19999 of 20000", Tides.of(5000, 20000, 19999).waveHeight(0, 1), 0);
        int[][] wrong = {
            {60, 60}, {60, -1}, {60, 61}, {61, 61}, {20000, 20000}, {20000, -1}, {60, LEAST},
            {60, MOST}, {59, 58}, {0, -1}, {0, 0}, {LEAST, MOST}, {LEAST, 0},
        };
        for (int[] one : wrong) {
            due.noArgument("offset " + one[1] + " of " + one[0],
                    () -> Tides.of(1000, one[0], one[1]).count(0));
        }
    }

    /** "let u be the remainder of t + offset by the period". */
    private void remainderWrapsAround() {
        TideTable x = Tides.of(5000, 60, 59);
        due.same("59 is the last of its turn", x.waveHeight(0, 0), -644);
        due.same("60 is the first of the next turn", x.waveHeight(0, 1), 0);
        due.same("61 is the second", x.waveHeight(0, 2), 644);
        due.same("4319 + 59 is 58 in its turn", x.waveHeight(0, 4319), -1244);
        TideTable slow = Tides.of(5000, 20000, 19999);
        due.same("19999 is the last of its turn", slow.waveHeight(0, 0), -1);
        due.same("20000 is the first of the next turn", slow.waveHeight(0, 1), 0);
        due.same("20001 is the second", slow.waveHeight(0, 2), 1);
        due.same("4320 minutes are one turn", Tides.of(5000, 4320, 0).waveHeight(0, 4319), -9);
        due.same("4319 minutes are one turn", Tides.of(5000, 4319, 0).waveHeight(0, 4319), 0);
        due.same("4318 minutes are one turn", Tides.of(5000, 4318, 0).waveHeight(0, 4319), 9);
    }

    /** "if v is less than the period, the height is ..; otherwise .. v less the period". */
    private void secondHalfBeginsAtThePeriod() {
        TideTable x = Tides.of(5000, 60, 0);
        due.same("v is 58 of 60", x.waveHeight(0, 29), 644);
        due.same("v is 60 of 60", x.waveHeight(0, 30), 0);
        due.same("v is 62 of 60", x.waveHeight(0, 31), -644);
        TideTable odd = Tides.of(5000, 61, 0);
        due.same("v is 60 of 61", odd.waveHeight(0, 30), 322);
        due.same("v is 62 of 61", odd.waveHeight(0, 31), -322);
        due.same("v is 120 of 61, the last one", odd.waveHeight(0, 60), -634);
    }

    /** "It goes up and down between plus and minus the range." */
    private void betweenPlusAndMinusTheRange() {
        due.same("greatest of 400", Tides.of(5000, 400, 0).datum(0), 5000);
        due.same("least of 400", Tides.of(5000, 400, 0).datum(1), -5000);
        due.same("greatest of 62, with no minute at its top", Tides.of(5000, 62, 0).datum(0), 4994);
        due.same("least of 62", Tides.of(5000, 62, 0).datum(1), -4994);
        due.same("greatest of range 0", Tides.of(0, 400, 0).datum(0), 0);
        due.same("least of range 0", Tides.of(0, 400, 0).datum(1), 0);
    }

    /** "what is said to be divided is cut towards 0", in both halves of a wave. */
    private void dividedIsCutTowards0() {
        TideTable x = Tides.even();
        due.same("19.9 is cut", x.waveHeight(0, 1), 19);
        due.same("-19.9 is cut", x.waveHeight(0, 201), -19);
        TideTable least = Tides.of(1, 400, 0);
        due.same("0.9999 is cut", least.waveHeight(0, 99), 0);
        due.same("1 is not", least.waveHeight(0, 100), 1);
        due.same("-0.9999 is cut", least.waveHeight(0, 299), 0);
        due.same("-1 is not", least.waveHeight(0, 300), -1);
    }

    /** "All is reckoned in 64-bit integers": 4 * 5000 * 10000 * 10000 is more than 32 bits. */
    private void reckonedIn64Bits() {
        TideTable x = Tides.of(5000, 20000, 4000);
        due.same("the top of the slowest wave", x.waveHeight(0, 1000), 5000);
        due.same("beside its top", x.waveHeight(0, 1001), 4999);
        due.same("the lowest of the slowest wave",
                Tides.of(5000, 20000, 14000).waveHeight(0, 1000), -5000);
    }

    /** "the mean level (at first 0)". */
    private void levelIsAtFirst0() {
        TideTable x = new TideTable();
        due.same("height at first", x.height(0), 0);
        due.same("level at first", x.setLevel(5), 0);
        due.same("height then", x.height(0), 5);
        due.same("level then", x.setLevel(0), 5);
    }

    /** "and the heights of all waves at this time, together": of none, and of eight. */
    private void heightIsOfAllWavesTogether() {
        TideTable x = new TideTable();
        x.setLevel(10000);
        due.same("no waves", x.height(100), 10000);
        for (int wave = 0; wave < 8; wave++) {
            x.addWave(5000, 400, 0);
            due.same("with wave " + wave, x.height(100), 15000 + 5000 * wave);
            due.same("greatest with wave " + wave, x.datum(0), 15000 + 5000 * wave);
        }
        x.setLevel(-10000);
        due.same("the least of all heights", x.datum(1), -50000);
        TideTable against = Tides.even();
        against.addWave(1000, 400, 200);
        due.same("waves against each other", against.datum(0) - against.datum(1), 0);
    }

    /** "A high water is at a minute t, 1 to 4318". */
    private void highIsAtMinute1To4318() {
        due.same("a top at 0 is none", Tides.of(1000, 60, 15).next(0, true), 1);
        due.same("the next one is at 60", Tides.of(1000, 60, 15).water(1, 0), 60);
        due.same("a top at 1 is one", Tides.of(1000, 60, 14).next(0, true), 0);
        due.same("it is at 1", Tides.of(1000, 60, 14).water(0, 0), 1);
        TideTable last = Tides.of(1000, 60, 17);
        due.same("a top at 4318 is one", last.next(4318, true), last.count(1) - 1);
        due.same("it is at 4318", last.water(last.count(1) - 1, 0), 4318);
        TideTable late = Tides.of(1000, 60, 16);
        due.same("4319 is the top", late.height(4319), 1000);
        due.same("a top at 4319 is none", late.next(4260, true), -1);
    }

    /** "A low water is there likewise, with less and greater exchanged." */
    private void lowIsAtMinute1To4318() {
        due.same("a low at 0 is none", Tides.of(1000, 60, 45).next(0, false), 1);
        due.same("the next one is at 60", Tides.of(1000, 60, 45).water(1, 0), 60);
        due.same("a low at 1 is one", Tides.of(1000, 60, 44).next(0, false), 0);
        due.same("it is at 1", Tides.of(1000, 60, 44).water(0, 0), 1);
        TideTable last = Tides.of(1000, 60, 47);
        due.same("a low at 4318 is one", last.next(4318, false), last.count(1) - 1);
        due.same("it is at 4318", last.water(last.count(1) - 1, 0), 4318);
        TideTable late = Tides.of(1000, 60, 46);
        due.same("4319 is the lowest", late.height(4319), -1000);
        due.same("a low at 4319 is none", late.next(4260, false), -1);
    }

    /** "at which the height is greater than at t - 1": not where it is the same. */
    private void waterIsNotAtAFlatBegin() {
        TideTable top = Tides.of(1000, 62, 15);
        due.same("the same at 0 and 1", top.height(0), top.height(1));
        due.same("less at 2", top.height(2) < top.height(1), true);
        due.same("a flat top from 0 is none", top.next(0, true), 1);
        TideTable bottom = Tides.of(1000, 62, 46);
        due.same("the same low at 0 and 1", bottom.height(0), bottom.height(1));
        due.same("more at 2", bottom.height(2) > bottom.height(1), true);
        due.same("a flat low from 0 is none", bottom.next(0, false), 1);
        due.same("the long top from 0 is none", Tides.longTop(147).water(0, 2), 0);
        due.same("the long top from 1 is one", Tides.longTop(146).water(0, 2), 1);
        due.same("it is at 1", Tides.longTop(146).water(0, 0), 1);
    }

    /** "greater than at t - 1, and at the first minute behind t at which it is another one". */
    private void waterIsAtTheFirstMinuteOfATop() {
        TideTable two = Tides.of(1000, 62, 0);
        due.same("a top of two minutes", two.height(15), two.height(16));
        due.same("its water is at the first", two.water(0, 0), 15);
        due.same("a low of two minutes", two.height(46), two.height(47));
        due.same("its water is at the first", two.water(1, 0), 46);
        TideTable many = Tides.longTop(0);
        int[] dueTimes = {147, 1148, 2149, 3150};
        due.same("waters of a tide with long tops", many.count(1), dueTimes.length);
        for (int water = 0; water < dueTimes.length; water++) {
            due.same("time of water " + water, many.water(water, 0), dueTimes[water]);
            due.same("height of water " + water, many.water(water, 1), water % 2 == 0 ? 1 : -1);
        }
        due.same("the top ends at 854", many.height(854) - many.height(855), 1);
    }

    /** "the first minute behind t at which it is another one than at t, there is one". */
    private void waterNeedsAnotherHeightBehind() {
        TideTable upTo4318 = Tides.longTop(540);
        int last = upTo4318.count(1) - 1;
        due.same("the last minute differs", upTo4318.height(4318) - upTo4318.height(4319), 1);
        due.same("a top up to 4318 is a water", upTo4318.water(last, 0), 3611);
        due.same("it is a high", upTo4318.water(last, 2), 1);
        TideTable upTo4319 = Tides.longTop(539);
        due.same("the last minute is the same", upTo4319.height(3612), upTo4319.height(4319));
        due.same("a top up to 4319 is none", upTo4319.next(3000, true), -1);
        TideTable low4318 = Tides.longTop(1541);
        last = low4318.count(1) - 1;
        due.same("a low up to 4318 is a water", low4318.water(last, 0), 3611);
        due.same("it is a low", low4318.water(last, 2), 0);
        due.same("a low up to 4319 is none", Tides.longTop(1540).next(3000, false), -1);
        TideTable two = Tides.of(1000, 62, 38);
        due.same("a top at 4317 and 4318", two.next(4317, true), two.count(1) - 1);
        due.same("a top at 4318 and 4319", Tides.of(1000, 62, 37).next(4300, true), -1);
    }

    /** "and it is less": where it goes on in the same direction there is no water. */
    private void shoulderIsNoWater() {
        TideTable stair = Tides.of(3, 4000, 0);
        due.same("the stair's heights", stair.datum(0) - stair.datum(1), 6);
        due.same("waters of the stair", stair.count(1), 2);
        due.same("its high", stair.water(0, 0), 1000);
        due.same("its low", stair.water(1, 0), 3000);
        TideTable down = Tides.of(3, 4000, 2000);
        due.same("waters of the stair down", down.count(1), 2);
        due.same("its low ahead", down.water(0, 2), 0);
    }

    /** A height that never is another one has no waters, nor has one that only rises. */
    private void flatTideHasNoWaters() {
        due.same("range 0", Tides.of(0, 60, 0).count(1), 0);
        due.same("cut to 0 at all minutes", Tides.of(1, 61, 0).count(1), 0);
        due.same("rises alone", Tides.of(5000, 20000, 0).count(1), 0);
        due.same("falls alone", Tides.of(5000, 20000, 10000).count(1), 0);
        due.same("one high", Tides.oneHigh().count(1), 1);
        due.same("one low", Tides.oneLow().count(1), 1);
        TideTable x = Tides.even();
        x.setRange(0, 0);
        due.same("no range any more", x.count(1), 0);
        x.setLevel(10000);
        due.same("a level alone", x.count(1), 0);
    }

    /** "numbered from 0 in the order of their times; highs and lows take turns". */
    private void highsAndLowsTakeTurns() {
        int[][] waves = {{745, 720}, {60, 61}, {400, 401}, {20000, 60}, {1500, 97}};
        for (int[] periods : waves) {
            TideTable x = Tides.of(900, periods[0], 0);
            x.addWave(800, periods[1], periods[1] / 2);
            for (int water = 1; water < Math.min(100, x.count(1)); water++) {
                String what = periods[0] + " and " + periods[1] + ", water " + water;
                due.same(what + " is behind", x.water(water, 0) > x.water(water - 1, 0), true);
                due.same(what + " is of the other sort",
                        x.water(water, 2) + x.water(water - 1, 2), 1);
            }
        }
    }

    private void watersAMinuteApart() {
        TideTable x = Tides.jagged();
        int[] dueHeights = {0, 1, 0};
        for (int time = 10; time <= 12; time++) {
            due.same("height(" + time + ")", x.height(time), dueHeights[time - 10]);
        }
        due.same("a high at 11", x.water(0, 0), 11);
        due.same("a low at 12", x.water(1, 0), 12);
        due.same("it is a low", x.water(1, 2), 0);
    }

    /** "IndexOutOfBoundsException if there is no such wave". */
    private void promise3NoSuchWave() {
        due.noIndex("setRange without waves", () -> new TideTable().setRange(0, 0));
        TideTable x = Tides.even();
        for (int wave : new int[] {-1, 1, 8, LEAST, MOST}) {
            due.noIndex("setRange(" + wave + ", 1)", () -> x.setRange(wave, 1));
        }
        due.same("the first wave", x.setRange(0, 1), 1000);
        TideTable full = Tides.full();
        due.same("the last wave", full.setRange(7, 1), 700);
        due.noIndex("behind the last wave", () -> full.setRange(8, 1));
    }

    /** "IllegalArgumentException if range is not 0 to 5000". */
    private void promise3RangeIs0To5000() {
        TideTable x = Tides.even();
        due.same("setRange(0, 0)", x.setRange(0, 0), 1000);
        due.same("the height then", x.waveHeight(0, 100), 0);
        due.same("setRange(0, 5000)", x.setRange(0, 5000), 0);
        due.same("the height then", x.waveHeight(0, 100), 5000);
        for (int range : new int[] {-1, 5001, LEAST, MOST}) {
            due.noArgument("setRange(0, " + range + ")", () -> x.setRange(0, range));
        }
        due.same("setRange(0, 5000) once more", x.setRange(0, 5000), 5000);
    }

    /** "IllegalArgumentException if level is not -10000 to 10000". */
    private void promise4LevelIsWithin10000() {
        TideTable x = Tides.even();
        due.same("setLevel(10000)", x.setLevel(10000), 0);
        due.same("the height then", x.height(0), 10000);
        due.same("setLevel(-10000)", x.setLevel(-10000), 10000);
        due.same("the height then", x.height(0), -10000);
        for (int level : new int[] {10001, -10001, LEAST, MOST}) {
            due.noArgument("setLevel(" + level + ")", () -> x.setLevel(level));
        }
        due.same("setLevel(-10000) once more", x.setLevel(-10000), -10000);
    }

    /** "IllegalArgumentException if time is not 0 to 4319". */
    private void promise5TimeIs0To4319() {
        TideTable x = Tides.even();
        x.setLevel(3);
        due.same("height(0)", x.height(0), 3);
        due.same("height(4319)", x.height(4319), 3 - 963);
        for (int time : new int[] {-1, 4320, LEAST, MOST}) {
            due.noArgument("height(" + time + ")", () -> x.height(time));
        }
    }

    /** "IndexOutOfBoundsException if there is no such wave". */
    private void promise6NoSuchWave() {
        TideTable x = Tides.even();
        for (int wave : new int[] {-1, 1, 8, LEAST, MOST}) {
            due.noIndex("waveHeight(" + wave + ", 1)", () -> x.waveHeight(wave, 1));
        }
        TideTable full = Tides.full();
        due.same("the last wave", full.waveHeight(7, 0), 359);
        due.noIndex("behind the last wave", () -> full.waveHeight(8, 0));
    }

    private void promise6TimeIs0To4319() {
        TideTable x = Tides.even();
        x.setLevel(3);
        due.same("waveHeight(0, 0)", x.waveHeight(0, 0), 0);
        due.same("waveHeight(0, 4319)", x.waveHeight(0, 4319), -963);
        for (int time : new int[] {-1, 4320, LEAST, MOST}) {
            due.noArgument("waveHeight(0, " + time + ")", () -> x.waveHeight(0, time));
        }
    }

    /** "IndexOutOfBoundsException if what is not 0 to 3". */
    private void promise7WhatIs0To3() {
        TideTable x = Tides.full();
        for (int what : new int[] {-1, 4, LEAST, MOST}) {
            due.noIndex("count(" + what + ")", () -> x.count(what));
        }
    }

    private void promise7EmptyAndFull() {
        TideTable empty = new TideTable();
        for (int what = 0; what <= 3; what++) {
            due.same("count(" + what + ") of an empty one", empty.count(what), 0);
        }
        TideTable full = Tides.full();
        due.same("waves of a full one", full.count(0), 8);
        due.same("ports of a full one", full.count(2), 6);
        due.same("readings of a full one", full.count(3), 40);
        due.same("waters with the shortest period", Tides.of(1000, 60, 0).count(1), 144);
        due.same("waters of waves against each other", Tides.jagged().count(1), 364);
    }

    /** "IndexOutOfBoundsException if there is no such water". */
    private void promise8NoSuchWater() {
        TideTable x = Tides.even();
        due.same("the first water", x.water(0, 0), 100);
        due.same("the last water", x.water(21, 0), 4300);
        for (int water : new int[] {-1, 22, 23, LEAST, MOST}) {
            due.noIndex("water(" + water + ", 0)", () -> x.water(water, 0));
        }
        due.noIndex("no waters", () -> new TideTable().water(0, 0));
        due.noIndex("no second water", () -> Tides.oneHigh().water(1, 0));
        x.setRange(0, 0);
        due.noIndex("no water any more", () -> x.water(0, 0));
    }

    /** "or what is not 0 to 2". */
    private void promise8WhatIs0To2() {
        TideTable x = Tides.even();
        due.same("what 0", x.water(1, 0), 300);
        due.same("what 1", x.water(1, 1), -1000);
        due.same("what 2 of a low", x.water(1, 2), 0);
        due.same("what 2 of a high", x.water(2, 2), 1);
        for (int what : new int[] {-1, 3, LEAST, MOST}) {
            due.noIndex("water(0, " + what + ")", () -> x.water(0, what));
            due.noIndex("water(22, " + what + ")", () -> x.water(22, what));
        }
    }

    /** "the number of the first such water at this time or behind it". */
    private void promise9AtThisTimeOrBehind() {
        TideTable x = Tides.even();
        due.same("high from 0", x.next(0, true), 0);
        due.same("high at its time", x.next(100, true), 0);
        due.same("high a minute behind its time", x.next(101, true), 2);
        due.same("high a minute ahead of the next", x.next(499, true), 2);
        due.same("low from 0", x.next(0, false), 1);
        due.same("low at its time", x.next(300, false), 1);
        due.same("low a minute behind its time", x.next(301, false), 3);
    }

    /** "-1 if there is none". */
    private void promise9NoneIsLess1() {
        TideTable x = Tides.even();
        due.same("the last high", x.next(4100, true), 20);
        due.same("behind the last high", x.next(4101, true), -1);
        due.same("the last low", x.next(4300, false), 21);
        due.same("behind the last low", x.next(4301, false), -1);
        due.same("no waters, high", new TideTable().next(0, true), -1);
        due.same("no waters, low", new TideTable().next(4319, false), -1);
        due.same("no lows", Tides.oneHigh().next(0, false), -1);
        due.same("no highs", Tides.oneLow().next(0, true), -1);
    }

    private void promise9TimeIs0To4319() {
        TideTable x = Tides.even();
        due.same("next(4319, true)", x.next(4319, true), -1);
        for (int time : new int[] {-1, 4320, LEAST, MOST}) {
            due.noArgument("next(" + time + ", true)", () -> x.next(time, true));
            due.noArgument("next(" + time + ", false)", () -> x.next(time, false));
        }
    }

    /** "the greatest height of all minutes, 1 the least one": the first and last ones are in it. */
    private void promise10OverAllMinutes() {
        TideTable rise = Tides.of(5000, 20000, 0);
        due.same("greatest at the last minute", rise.datum(0), rise.height(4319));
        due.same("least at the first minute", rise.datum(1), 0);
        TideTable fall = Tides.of(5000, 20000, 10000);
        due.same("greatest at the first minute", fall.datum(0), 0);
        due.same("least at the last minute", fall.datum(1), fall.height(4319));
        TideTable high = Tides.even();
        high.setLevel(10000);
        due.same("least above 0", high.datum(1), 9000);
        high.setLevel(-10000);
        due.same("greatest below 0", high.datum(0), -9000);
    }

    /** "their sum divided by their number; 0 if there are none", "likewise of all low waters". */
    private void promise10NoHighsNoLows() {
        TideTable high = Tides.oneHigh();
        due.same("mean of one high", high.datum(2), 5000);
        due.same("mean of no lows", high.datum(3), 0);
        TideTable low = Tides.oneLow();
        due.same("mean of no highs", low.datum(2), 0);
        due.same("mean of one low", low.datum(3), -5000);
        TideTable none = new TideTable();
        none.setLevel(-9000);
        due.same("mean of no highs at all", none.datum(2), 0);
        due.same("mean of no lows at all", none.datum(3), 0);
    }

    /** Cut towards 0; the slow wave adds 1 from 1465 on, to 7 of 11 highs and 8 of 11 lows. */
    private void promise10MeansAreCut() {
        TideTable x = Tides.even();
        x.addWave(2, 20000, 0);
        due.same("mean of 11007 / 11", x.datum(2), 1000);
        due.same("mean of -10992 / 11", x.datum(3), -999);
        x.setLevel(-1001);
        due.same("mean of highs of -4 / 11", x.datum(2), 0);
        x.setLevel(999);
        due.same("mean of lows of -3 / 11", x.datum(3), 0);
    }

    /** "the greatest difference (without sign) of the heights of two waters next to each other". */
    private void promise10DifferenceWithoutSign() {
        due.same("a high and the low behind", Tides.farWaters().datum(4), 10000);
        due.same("a low and the high behind", Tides.of(5000, 8632, 6473).datum(4), 10000);
        TideTable full = Tides.full();
        int greatest = 0;
        for (int water = 1; water < full.count(1); water++) {
            int less = full.water(water, 1) - full.water(water - 1, 1);
            greatest = Math.max(greatest, Math.abs(less));
        }
        due.same("the greatest of many", full.datum(4), greatest);
        due.same("the first is less", full.water(0, 1) - full.water(1, 1) < greatest, true);
        due.same("waters farther apart differ more", full.datum(0) - full.datum(1) > greatest, true);
    }

    /** "(0 if there are none)". */
    private void promise10NoTwoWaters() {
        due.same("one high", Tides.oneHigh().datum(4), 0);
        due.same("one low", Tides.oneLow().datum(4), 0);
        due.same("no waters", new TideTable().datum(4), 0);
    }

    /** "IndexOutOfBoundsException if what is not 0 to 4". */
    private void promise10WhatIs0To4() {
        TideTable x = Tides.even();
        for (int what : new int[] {-1, 5, LEAST, MOST}) {
            due.noIndex("datum(" + what + ")", () -> x.datum(what));
        }
    }
}
