/**
 * The boundary cases that the document names for the other ports and the windows ('Ports' of its
 * terms, promises 11 to 17), each sentence in a method of its own. What calls throw together, and
 * that they change nothing then, is in RefusedCallsTest.
 */
public final class OtherPortsEdgesTest {
    private static final int LEAST = Integer.MIN_VALUE;
    private static final int MOST = Integer.MAX_VALUE;
    private static final int[] NONE = {0, 0, -1, 0};

    private final Due due = new Due();

    public static void main(String[] args) {
        OtherPortsEdgesTest test = new OtherPortsEdgesTest();
        test.portsAreAtMostSix();
        test.portsAreNumberedFrom0();
        test.promise11HasShifts0Factors100Addition0();
        test.promise12NoSuchPort();
        test.promise12ShiftIsWithin300();
        test.promise12FactorIs0To300();
        test.promise12ReturnsTheFactorBefore();
        test.promise12HighsOrLowsAlone();
        test.promise13NoSuchPort();
        test.promise13AdditionIsWithin3000();
        test.promise14LaterThanTheOneAhead();
        test.promise14OnePairIsEnough();
        test.promise14FirstMiddleAndLastPair();
        test.promise14NoWatersAndOne();
        test.promise14NoSuchPort();
        test.promise15TimesOutsideTheDays();
        test.promise15FactorsAtTheirEdges();
        test.promise15GreatestAndLeastHeight();
        test.promise15CutAheadOfTheAddition();
        test.promise15NoSuchPort();
        test.promise15NoSuchWater();
        test.promise16WaterAtOrAhead();
        test.promise16WaterBehind();
        test.promise16WatersOutsideTheDays();
        test.promise16EdgesOfSixths();
        test.promise16EdgesOfUnevenSixths();
        test.promise16WatersFewMinutesApart();
        test.promise16CutsTheWayTowards0();
        test.promise16ReckonedIn64Bits();
        test.promise16ToldInOrderAlone();
        test.promise16FewWaters();
        test.promise16NoSuchPort();
        test.promise16TimeIs0To4319();
        test.promise17AtLeastTheLevel();
        test.promise17EveryLevelIsTaken();
        test.promise17FromTo();
        test.promise17CutByFromAndTo();
        test.promise17OneMinuteBetween();
        test.promise17LongestOfSeveral();
        test.promise17NoneIsLess1();
        test.promise17NotToldDoesNotCount();
        test.promise17OutOfOrder();
        test.promise17ChiefPortIsLess1();
        test.promise17WhatIs0To3();
        test.due.end("OtherPortsEdgesTest");
    }

    private static int water(TideTable x, int water, boolean isTime) {
        return x.portWater(0, water, isTime);
    }

    /** "There are at most 6"; "IllegalStateException if there are 6 ports". */
    private void portsAreAtMostSix() {
        TideTable x = new TideTable();
        for (int number = 0; number < 6; number++) {
            due.same("ports ahead of " + number, x.count(2), number);
            x.addPort();
        }
        due.same("six ports", x.count(2), 6);
        due.noState("a seventh port", x::addPort);
        due.same("six ports still", x.count(2), 6);
        due.noIndex("no port 6", () -> x.setAddition(6, 0));
    }

    /** "numbered likewise". */
    private void portsAreNumberedFrom0() {
        TideTable x = Tides.even();
        for (int number = 0; number < 6; number++) {
            due.same("number " + number, x.addPort(), number);
            x.setAddition(number, number);
        }
        for (int number = 0; number < 6; number++) {
            due.same("addition of " + number, x.setAddition(number, 0), number);
        }
    }

    /** "Adds a port, which has the shifts 0, the factors 100 and the addition 0." */
    private void promise11HasShifts0Factors100Addition0() {
        TideTable x = Tides.evenWithPort();
        for (int water = 0; water < 22; water++) {
            due.same("time of " + water, water(x, water, true), x.water(water, 0));
            due.same("height of " + water, water(x, water, false), x.water(water, 1));
        }
        due.same("in order", x.isInOrder(0), true);
        due.same("factor for highs", x.setPort(0, true, 0, 0), 100);
        due.same("factor for lows", x.setPort(0, false, 0, 0), 100);
        due.same("addition", x.setAddition(0, 1), 0);
        x.addPort();
        due.same("the next port has its own", x.portWater(1, 0, false), 1000);
        due.same("and its own addition", x.setAddition(1, 0), 0);
    }

    private void promise12NoSuchPort() {
        TideTable x = Tides.evenWithPort();
        for (int port : new int[] {-1, 1, 6, LEAST, MOST}) {
            due.noIndex("setPort(" + port + ", true)", () -> x.setPort(port, true, 0, 0));
            due.noIndex("setPort(" + port + ", false)", () -> x.setPort(port, false, 0, 0));
        }
        due.noIndex("no ports", () -> new TideTable().setPort(0, true, 0, 0));
        TideTable full = Tides.full();
        due.same("the last port", full.setPort(5, true, 0, 0), 55);
        due.noIndex("behind the last port", () -> full.setPort(6, true, 0, 0));
    }

    /** "if shift is not -300 to 300". */
    private void promise12ShiftIsWithin300() {
        TideTable x = Tides.evenWithPort();
        for (int shift : new int[] {-300, -299, 0, 299, 300}) {
            x.setPort(0, true, shift, 100);
            due.same("high by " + shift, water(x, 2, true), 500 + shift);
            x.setPort(0, false, -shift, 100);
            due.same("low by " + -shift, water(x, 3, true), 700 - shift);
        }
        for (int shift : new int[] {-301, 301, LEAST, MOST}) {
            due.noArgument("shift of highs " + shift, () -> x.setPort(0, true, shift, 100));
            due.noArgument("shift of lows " + shift, () -> x.setPort(0, false, shift, 100));
        }
        due.same("high by 300 still", water(x, 2, true), 800);
        due.same("low by -300 still", water(x, 3, true), 400);
    }

    /** "or factor is not 0 to 300". */
    private void promise12FactorIs0To300() {
        TideTable x = Tides.evenWithPort();
        for (int factor : new int[] {0, 1, 299, 300}) {
            x.setPort(0, true, 0, factor);
            due.same("high times " + factor, water(x, 0, false), 10 * factor);
            x.setPort(0, false, 0, factor);
            due.same("low times " + factor, water(x, 1, false), -10 * factor);
        }
        for (int factor : new int[] {-1, 301, LEAST, MOST}) {
            due.noArgument("factor of highs " + factor, () -> x.setPort(0, true, 0, factor));
            due.noArgument("factor of lows " + factor, () -> x.setPort(0, false, 0, factor));
        }
        due.same("high times 300 still", water(x, 0, false), 3000);
        due.same("low times 300 still", water(x, 1, false), -3000);
    }

    /** "Returns the factor before": of this sort, and not the shift. */
    private void promise12ReturnsTheFactorBefore() {
        TideTable x = Tides.evenWithPort();
        due.same("highs at first", x.setPort(0, true, 7, 0), 100);
        due.same("highs then", x.setPort(0, true, 8, 300), 0);
        due.same("highs then", x.setPort(0, true, 8, 300), 300);
        due.same("lows at first", x.setPort(0, false, 9, 1), 100);
        due.same("lows then", x.setPort(0, false, 9, 2), 1);
        due.same("highs still", x.setPort(0, true, 0, 0), 300);
    }

    /** "whether highs are meant; otherwise lows". */
    private void promise12HighsOrLowsAlone() {
        TideTable x = Tides.evenWithPort();
        x.setPort(0, true, 20, 50);
        due.same("high", water(x, 0, true), 120);
        due.same("high", water(x, 0, false), 500);
        due.same("low stays", water(x, 1, true), 300);
        due.same("low stays", water(x, 1, false), -1000);
        x.setPort(0, false, -20, 200);
        due.same("high stays", water(x, 0, true), 120);
        due.same("high stays", water(x, 0, false), 500);
        due.same("low", water(x, 1, true), 280);
        due.same("low", water(x, 1, false), -2000);
    }

    private void promise13NoSuchPort() {
        TideTable x = Tides.evenWithPort();
        for (int port : new int[] {-1, 1, 6, LEAST, MOST}) {
            due.noIndex("setAddition(" + port + ", 0)", () -> x.setAddition(port, 0));
        }
        due.noIndex("no ports", () -> new TideTable().setAddition(0, 0));
        TideTable full = Tides.full();
        due.same("the last port", full.setAddition(5, 0), 150);
        due.noIndex("behind the last port", () -> full.setAddition(6, 0));
    }

    /** "if added is not -3000 to 3000". */
    private void promise13AdditionIsWithin3000() {
        TideTable x = Tides.evenWithPort();
        due.same("setAddition(0, 3000)", x.setAddition(0, 3000), 0);
        due.same("high then", water(x, 0, false), 4000);
        due.same("setAddition(0, -3000)", x.setAddition(0, -3000), 3000);
        due.same("low then", water(x, 1, false), -4000);
        for (int added : new int[] {-3001, 3001, LEAST, MOST}) {
            due.noArgument("setAddition(0, " + added + ")", () -> x.setAddition(0, added));
        }
        due.same("low still", water(x, 1, false), -4000);
        due.same("addition still", x.setAddition(0, 0), -3000);
    }

    private void inOrder(int highShift, int lowShift, boolean want) {
        TideTable x = Tides.evenWithPort();
        x.setPort(0, true, highShift, 100);
        x.setPort(0, false, lowShift, 100);
        due.same("in order by " + highShift + " and " + lowShift, x.isInOrder(0), want);
    }

    /** "if each of its waters is later than the one ahead of it": not at the same minute. */
    private void promise14LaterThanTheOneAhead() {
        inOrder(0, 0, true);
        inOrder(199, 0, true);
        inOrder(200, 0, false);
        inOrder(201, 0, false);
        inOrder(-199, 0, true);
        inOrder(-200, 0, false);
        inOrder(0, 199, true);
        inOrder(0, 200, false);
        inOrder(0, -199, true);
        inOrder(0, -200, false);
        inOrder(300, 101, true);
        inOrder(300, 100, false);
        inOrder(-300, -101, true);
        inOrder(-300, -100, false);
        inOrder(300, 300, true);
        inOrder(-300, -300, true);
        inOrder(300, -300, false);
        inOrder(-300, 300, false);
    }

    /** The high at 11 and the low at 12 are a minute apart; of two far waters none is near. */
    private void promise14OnePairIsEnough() {
        TideTable near = Tides.jagged();
        near.addPort();
        due.same("a minute apart", near.isInOrder(0), true);
        near.setPort(0, true, 1, 100);
        due.same("at the same minute", near.isInOrder(0), false);
        near.setPort(0, false, 1, 100);
        due.same("a minute apart again", near.isInOrder(0), true);
        TideTable far = Tides.farWaters();
        far.addPort();
        far.setPort(0, true, 300, 100);
        far.setPort(0, false, -300, 100);
        due.same("far apart", far.isInOrder(0), true);
    }

    private static TideTable uneven(int offset, int range, int slowPeriod, int slowOffset) {
        TideTable x = Tides.of(1000, 450, offset);
        x.addWave(range, slowPeriod, slowOffset);
        x.addPort();
        return x;
    }

    private void onePairMeets(TideTable x, boolean isHigh, int shift, int pair) {
        x.setPort(0, isHigh, shift - 1, 100);
        due.same("in order by " + (shift - 1), x.isInOrder(0), true);
        x.setPort(0, isHigh, shift, 100);
        due.same("in order by " + shift, x.isInOrder(0), false);
        for (int water = 1; water < x.count(1); water++) {
            boolean isLater = water(x, water, true) > water(x, water - 1, true);
            due.same("water " + water + " by " + shift, isLater, water != pair);
        }
    }

    /** "each of its waters": the only pair out of order is the first one, one between, the last. */
    private void promise14FirstMiddleAndLastPair() {
        onePairMeets(uneven(0, 800, 4500, 0), true, 211, 1);
        onePairMeets(uneven(0, 800, 4500, 0), false, 209, 10);
        onePairMeets(uneven(100, 500, 5800, 1450), true, 217, 19);
    }

    private void promise14NoWatersAndOne() {
        TideTable none = new TideTable();
        none.addPort();
        none.setPort(0, true, 300, 100);
        none.setPort(0, false, -300, 100);
        due.same("no waters", none.isInOrder(0), true);
        TideTable one = Tides.oneHigh();
        one.addPort();
        one.setPort(0, true, 300, 100);
        one.setPort(0, false, -300, 100);
        due.same("one water", one.isInOrder(0), true);
    }

    private void promise14NoSuchPort() {
        TideTable x = Tides.evenWithPort();
        for (int port : new int[] {-1, 1, 6, LEAST, MOST}) {
            due.noIndex("isInOrder(" + port + ")", () -> x.isInOrder(port) ? 1 : 0);
        }
        due.noIndex("no ports", () -> new TideTable().isInOrder(0) ? 1 : 0);
        TideTable full = Tides.full();
        due.same("the last port", full.isInOrder(5), true);
        due.noIndex("behind the last port", () -> full.isInOrder(6) ? 1 : 0);
    }

    /** "(also less than 0, or greater than 4319)". */
    private void promise15TimesOutsideTheDays() {
        TideTable high = Tides.of(1000, 60, 14);
        high.addPort();
        high.setPort(0, true, -1, 100);
        due.same("a high at 1, by -1", water(high, 0, true), 0);
        high.setPort(0, true, -2, 100);
        due.same("a high at 1, by -2", water(high, 0, true), -1);
        high.setPort(0, true, -300, 100);
        due.same("a high at 1, by -300", water(high, 0, true), -299);
        TideTable low = Tides.of(1000, 60, 47);
        low.addPort();
        int last = low.count(1) - 1;
        low.setPort(0, false, 1, 100);
        due.same("a low at 4318, by 1", water(low, last, true), 4319);
        low.setPort(0, false, 2, 100);
        due.same("a low at 4318, by 2", water(low, last, true), 4320);
        low.setPort(0, false, 300, 100);
        due.same("a low at 4318, by 300", water(low, last, true), 4618);
    }

    /** "multiplied by its factor for this sort, divided by 100, and the addition". */
    private void promise15FactorsAtTheirEdges() {
        TideTable x = Tides.of(99, 400, 0);
        x.addPort();
        x.setAddition(0, 5);
        int[][] dueHeights = {{0, 5, 5}, {1, 5, 5}, {2, 6, 4}, {99, 103, -93}, {300, 302, -292}};
        for (int[] one : dueHeights) {
            x.setPort(0, true, 0, one[0]);
            x.setPort(0, false, 0, one[0]);
            due.same("99 times " + one[0], water(x, 0, false), one[1]);
            due.same("-99 times " + one[0], water(x, 1, false), one[2]);
        }
    }

    private void promise15GreatestAndLeastHeight() {
        TideTable x = new TideTable();
        for (int wave = 0; wave < 8; wave++) {
            x.addWave(5000, 400, 0);
        }
        x.addPort();
        x.setPort(0, true, 0, 300);
        x.setPort(0, false, 0, 300);
        x.setLevel(10000);
        x.setAddition(0, 3000);
        due.same("the greatest height of a port", water(x, 0, false), 153000);
        x.setLevel(-10000);
        x.setAddition(0, -3000);
        due.same("the least height of a port", water(x, 1, false), -153000);
    }

    private void promise15CutAheadOfTheAddition() {
        TideTable x = Tides.evenWithPort();
        x.setLevel(5);
        x.setPort(0, true, 0, 33);
        x.setPort(0, false, 0, 33);
        due.same("331.65 is cut", water(x, 0, false), 331);
        due.same("-328.35 is cut towards 0", water(x, 1, false), -328);
        x.setAddition(0, 400);
        due.same("-328 and 400", water(x, 1, false), 72);
        x.setAddition(0, -400);
        due.same("331 less 400", water(x, 0, false), -69);
    }

    /** "IndexOutOfBoundsException if there is no such port or water". */
    private void promise15NoSuchPort() {
        TideTable x = Tides.evenWithPort();
        for (int port : new int[] {-1, 1, 6, LEAST, MOST}) {
            due.noIndex("portWater(" + port + ", 0)", () -> x.portWater(port, 0, true));
            due.noIndex("portWater(" + port + ", 22)", () -> x.portWater(port, 22, false));
        }
        due.noIndex("no ports", () -> Tides.even().portWater(0, 0, true));
        TideTable full = Tides.full();
        due.same("the last port", full.portWater(5, 0, true), full.water(0, 0) + 25);
        due.noIndex("behind the last port", () -> full.portWater(6, 0, true));
    }

    private void promise15NoSuchWater() {
        TideTable x = Tides.evenWithPort();
        due.same("the first water", water(x, 0, true), 100);
        due.same("the last water", water(x, 21, true), 4300);
        for (int water : new int[] {-1, 22, 23, LEAST, MOST}) {
            due.noIndex("portWater(0, " + water + ", true)", () -> x.portWater(0, water, true));
            due.noIndex("portWater(0, " + water + ", false)", () -> x.portWater(0, water, false));
        }
        x.setRange(0, 0);
        due.noIndex("no waters any more", () -> x.portWater(0, 0, true));
    }

    private void heights(String what, TideTable x, int[][] dueHeights) {
        for (int[] one : dueHeights) {
            due.same(what + ", portHeight(0, " + one[0] + ")", x.portHeight(0, one[0]), one[1]);
        }
    }

    /** "there is a water a at t or ahead of it". */
    private void promise16WaterAtOrAhead() {
        TideTable x = Tides.evenWithPort();
        due.noState("the minute ahead of the first water", () -> x.portHeight(0, 99));
        heights("at the first water and behind", x, new int[][] {{100, 1000}, {101, 995}});
        x.setPort(0, true, -99, 100);
        due.noState("the first water is at 1", () -> x.portHeight(0, 0));
        heights("the first water at 1", x, new int[][] {{1, 1000}});
        x.setPort(0, true, -100, 100);
        heights("the first water at 0", x, new int[][] {{0, 1000}});
    }

    /** "and one behind t": the last water itself has none. */
    private void promise16WaterBehind() {
        TideTable x = Tides.evenWithPort();
        heights("the minute ahead of the last water", x, new int[][] {{4299, -995}});
        due.noState("at the last water", () -> x.portHeight(0, 4300));
        due.noState("the minute behind the last water", () -> x.portHeight(0, 4301));
        due.noState("the last minute", () -> x.portHeight(0, 4319));
        x.setPort(0, false, 19, 100);
        due.noState("the last water is at 4319", () -> x.portHeight(0, 4319));
        heights("the last water at 4319", x, new int[][] {{4318, -995}});
        x.setPort(0, false, 20, 100);
        heights("the last water at 4320", x, new int[][] {{4319, -995}});
    }

    /** The waters less than 0 and greater than 4319 are waters too: 58 of 60 and 1 of 60. */
    private void promise16WatersOutsideTheDays() {
        TideTable x = Tides.evenWithPort();
        x.setPort(0, true, -300, 100);
        x.setPort(0, false, -300, 100);
        due.same("two waters are not later than 0", water(x, 1, true), 0);
        heights("the later one of both", x, new int[][] {{0, -1000}, {100, 0}, {200, 1000}});
        x.setPort(0, true, 300, 100);
        x.setPort(0, false, 300, 100);
        due.same("two waters are behind 4319", water(x, 20, true), 4400);
        heights("the earlier one of both", x, new int[][] {{4200, -1000}, {4300, 0}, {4319, 285}});
        TideTable far = Tides.farWaters();
        far.addPort();
        far.setPort(0, true, -300, 100);
        far.setPort(0, false, 300, 100);
        heights("between waters on both sides", far, new int[][] {{0, 4696}, {2159, 0}});
    }

    /** "s = 6 * e / D": from 98 to 300 and to 498; the second of these has 198 = 6 * 33 minutes. */
    private void promise16EdgesOfSixths() {
        TideTable fall = Tides.evenWithPort();
        fall.setPort(0, false, -2, 100);
        heights("198 minutes down", fall, new int[][] {
            {100, 1000}, {132, 839}, {133, 834}, {134, 824}, {165, 511}, {166, 500}, {167, 485},
            {198, 16}, {199, 0}, {200, -15}, {231, -484}, {232, -500}, {233, -510}, {264, -823},
            {265, -833}, {266, -838}, {297, -994}, {298, -1000},
        });
        TideTable rise = Tides.evenWithPort();
        rise.setPort(0, true, -2, 100);
        heights("198 minutes up", rise, new int[][] {
            {300, -1000}, {332, -839}, {333, -834}, {366, -500}, {399, 0}, {432, 500}, {465, 833},
            {497, 994}, {498, 1000},
        });
    }

    /** Of 200 minutes no sixth but the fourth begins at a whole minute. */
    private void promise16EdgesOfUnevenSixths() {
        TideTable x = Tides.evenWithPort();
        heights("200 minutes down", x, new int[][] {
            {133, 835}, {134, 827}, {166, 507}, {167, 495}, {199, 15}, {200, 0}, {201, -15},
            {233, -495}, {234, -506}, {266, -826}, {267, -835}, {299, -995}, {300, -1000},
        });
    }

    /** Fewer minutes than sixths: one, five and seven from the high to the low at 300. */
    private void promise16WatersFewMinutesApart() {
        TideTable x = Tides.evenWithPort();
        x.setPort(0, true, 199, 100);
        heights("one minute", x, new int[][] {{299, 1000}, {300, -1000}});
        x.setPort(0, true, 195, 100);
        heights("five minutes", x, new int[][] {
            {295, 1000}, {296, 767}, {297, 300}, {298, -300}, {299, -766}, {300, -1000},
        });
        x.setPort(0, true, 193, 100);
        heights("seven minutes", x, new int[][] {
            {293, 1000}, {294, 858}, {295, 596}, {296, 215}, {297, -214}, {298, -595}, {299, -857},
            {300, -1000},
        });
        TideTable near = Tides.jagged();
        near.addPort();
        heights("waters a minute apart", near, new int[][] {{11, 1}, {12, 0}});
    }

    /** The way is divided and cut, and then comes to the height of a. */
    private void promise16CutsTheWayTowards0() {
        TideTable x = Tides.of(1, 400, 0);
        x.addPort();
        heights("from 1 to -1 and up again", x, new int[][] {
            {100, 1}, {101, 1}, {199, 1}, {200, 0}, {201, 0}, {299, 0}, {300, -1},
            {301, -1}, {399, -1}, {400, 0}, {401, 0}, {499, 0}, {500, 1},
        });
        x.setPort(0, true, 0, 0);
        x.setPort(0, false, 0, 0);
        x.setAddition(0, -7);
        heights("from -7 to -7", x, new int[][] {{100, -7}, {101, -7}, {4299, -7}});
    }

    /** "All is reckoned in 64-bit integers": 240000 * 57204 is more than 32 bits. */
    private void promise16ReckonedIn64Bits() {
        TideTable x = Tides.farWaters();
        for (int wave = 1; wave < 8; wave++) {
            x.addWave(5000, 8632, 2157);
        }
        x.addPort();
        x.setPort(0, true, -300, 300);
        x.setPort(0, false, 300, 300);
        due.same("time of a", water(x, 0, true), -299);
        due.same("height of a", water(x, 0, false), 120000);
        due.same("time of b", water(x, 1, true), 4617);
        due.same("height of b", water(x, 1, false), -120000);
        heights("4916 minutes", x, new int[][] {{0, 112702}, {2159, 0}, {4319, -112725}});
    }

    /** "Its height at a time t is told if it is in order". */
    private void promise16ToldInOrderAlone() {
        TideTable x = Tides.evenWithPort();
        x.setPort(0, true, 199, 100);
        heights("in order", x, new int[][] {{300, -1000}, {400, -666}});
        x.setPort(0, true, 200, 100);
        due.noState("out of order, between waters", () -> x.portHeight(0, 400));
        due.noState("out of order, at a water", () -> x.portHeight(0, 300));
        due.noState("out of order, at the first minute", () -> x.portHeight(0, 0));
        x.setPort(0, true, 0, 100);
        heights("in order again", x, new int[][] {{400, 0}});
        // Only the first waters are a minute apart, and yet the port tells no height at all.
        TideTable near = Tides.jagged();
        near.addPort();
        near.setPort(0, true, 1, 100);
        due.noState("far behind the waters out of order", () -> near.portHeight(0, 4000));
    }

    private void promise16FewWaters() {
        TideTable none = new TideTable();
        none.addPort();
        due.noState("no waters, at 0", () -> none.portHeight(0, 0));
        due.noState("no waters, at 4319", () -> none.portHeight(0, 4319));
        TideTable one = Tides.oneHigh();
        one.addPort();
        for (int time : new int[] {0, 1999, 2000, 2001, 4319}) {
            due.noState("one water, at " + time, () -> one.portHeight(0, time));
        }
        TideTable two = Tides.farWaters();
        two.addPort();
        due.noState("two waters, ahead", () -> two.portHeight(0, 0));
        heights("two waters", two, new int[][] {{1, 5000}, {2159, 0}, {4316, -4998}});
        due.noState("two waters, at the second", () -> two.portHeight(0, 4317));
    }

    private void promise16NoSuchPort() {
        TideTable x = Tides.evenWithPort();
        for (int port : new int[] {-1, 1, 6, LEAST, MOST}) {
            due.noIndex("portHeight(" + port + ", 100)", () -> x.portHeight(port, 100));
        }
        due.noIndex("no ports", () -> Tides.even().portHeight(0, 100));
        TideTable full = Tides.full();
        due.same("the last port", full.portHeight(5, full.portWater(5, 3, true)),
                full.portWater(5, 3, false));
        due.noIndex("behind the last port", () -> full.portHeight(6, 100));
    }

    private void promise16TimeIs0To4319() {
        TideTable x = Tides.evenWithPort();
        x.setPort(0, true, -100, 100);
        x.setPort(0, false, 20, 100);
        heights("the first and the last minute", x, new int[][] {{0, 1000}, {4319, -996}});
        for (int time : new int[] {-1, 4320, LEAST, MOST}) {
            due.noArgument("portHeight(0, " + time + ")", () -> x.portHeight(0, time));
        }
    }

    private void windows(TideTable x, int port, int level, int from, int to, int[] want) {
        for (int what = 0; what <= 3; what++) {
            due.same("windows(" + port + ", " + level + ", " + from + ", " + to + ", " + what + ")",
                    x.windows(port, level, from, to, what), want[what]);
        }
    }

    /** "at which the height is at least a level". */
    private void promise17AtLeastTheLevel() {
        TideTable x = Tides.evenWithPort();
        windows(x, -1, 999, 0, 400, new int[] {1, 7, 97, 7});
        windows(x, -1, 1000, 0, 400, new int[] {1, 1, 100, 1});
        windows(x, -1, 1001, 0, 400, NONE);
        windows(x, -1, -1000, 0, 400, new int[] {1, 401, 0, 401});
        windows(x, 0, 995, 0, 400, new int[] {1, 2, 100, 2});
        windows(x, 0, 996, 0, 400, new int[] {1, 1, 100, 1});
        windows(x, 0, 1000, 0, 400, new int[] {1, 1, 100, 1});
        windows(x, 0, 1001, 0, 400, NONE);
    }

    private void promise17EveryLevelIsTaken() {
        TideTable x = Tides.evenWithPort();
        windows(x, -1, LEAST, 0, 4319, new int[] {1, 4320, 0, 4320});
        windows(x, -1, MOST, 0, 4319, NONE);
        windows(x, 0, LEAST, 0, 4319, new int[] {1, 4200, 100, 4200});
        windows(x, 0, MOST, 0, 4319, NONE);
    }

    /** "if from is less than 0 or greater than to, or to is greater than 4319". */
    private void promise17FromTo() {
        TideTable x = Tides.evenWithPort();
        windows(x, -1, LEAST, 0, 0, new int[] {1, 1, 0, 1});
        windows(x, -1, LEAST, 4319, 4319, new int[] {1, 1, 4319, 1});
        windows(x, -1, LEAST, 0, 4319, new int[] {1, 4320, 0, 4320});
        windows(x, 0, LEAST, 100, 100, new int[] {1, 1, 100, 1});
        int[][] wrong = {
            {-1, 0}, {-1, -1}, {1, 0}, {4319, 4318}, {0, 4320}, {4320, 4320}, {4320, 4319},
            {LEAST, 0}, {0, MOST}, {LEAST, MOST}, {MOST, LEAST}, {0, -1},
        };
        for (int[] one : wrong) {
            for (int what = 0; what <= 3; what++) {
                int asked = what;
                due.noArgument("windows from " + one[0] + " to " + one[1],
                        () -> x.windows(-1, 0, one[0], one[1], asked));
                due.noArgument("windows of a port from " + one[0] + " to " + one[1],
                        () -> x.windows(0, 0, one[0], one[1], asked));
            }
        }
    }

    /** "within a time": what is outside of it is not in the row. At least 0 to 200, 400 to 600. */
    private void promise17CutByFromAndTo() {
        TideTable x = Tides.evenWithPort();
        windows(x, -1, 0, 0, 420, new int[] {2, 222, 0, 201});
        windows(x, -1, 0, 150, 820, new int[] {3, 273, 150, 201});
        windows(x, -1, 0, 200, 400, new int[] {2, 2, 200, 1});
        windows(x, -1, 0, 201, 399, NONE);
        windows(x, -1, 0, 450, 500, new int[] {1, 51, 450, 51});
        windows(x, 0, 0, 150, 420, new int[] {2, 51 + 21, 150, 51});
        windows(x, 0, 0, 450, 500, new int[] {1, 51, 450, 51});
    }

    /** A single minute that is too low parts two windows. */
    private void promise17OneMinuteBetween() {
        TideTable x = Tides.evenWithPort();
        windows(x, -1, -999, 100, 500, new int[] {2, 400, 100, 200});
        windows(x, 0, -999, 100, 500, new int[] {2, 400, 100, 200});
        windows(Tides.jagged(), -1, 1, 10, 12, new int[] {1, 1, 11, 1});
        windows(Tides.jagged(), -1, 0, 10, 12, new int[] {1, 3, 10, 3});
    }

    /** "3 the minutes of the longest one": the first, the last, or one of the same length. */
    private void promise17LongestOfSeveral() {
        TideTable x = Tides.even();
        windows(x, -1, 0, 0, 410, new int[] {2, 212, 0, 201});
        windows(x, -1, 0, 190, 600, new int[] {2, 212, 190, 201});
        windows(x, -1, 0, 190, 810, new int[] {3, 223, 190, 201});
        windows(x, -1, 0, 0, 600, new int[] {2, 402, 0, 201});
    }

    /** "(-1 if there is none)", "(0 if there is none)"; the minute 0 is no sign for none. */
    private void promise17NoneIsLess1() {
        TideTable x = Tides.evenWithPort();
        windows(x, -1, 1001, 0, 4319, NONE);
        windows(x, 0, 1001, 0, 4319, NONE);
        windows(x, -1, 0, 0, 0, new int[] {1, 1, 0, 1});
        x.setPort(0, true, -100, 100);
        windows(x, 0, 0, 0, 0, new int[] {1, 1, 0, 1});
    }

    /** "(Minutes at which the height of a port is not told do not count.)" */
    private void promise17NotToldDoesNotCount() {
        TideTable x = Tides.evenWithPort();
        windows(x, 0, LEAST, 0, 99, NONE);
        windows(x, 0, LEAST, 0, 100, new int[] {1, 1, 100, 1});
        windows(x, 0, LEAST, 4299, 4319, new int[] {1, 1, 4299, 1});
        windows(x, 0, LEAST, 4300, 4319, NONE);
        x.setPort(0, true, -100, 100);
        x.setPort(0, false, 20, 100);
        windows(x, 0, LEAST, 0, 4319, new int[] {1, 4320, 0, 4320});
        TideTable one = Tides.oneHigh();
        one.addPort();
        windows(one, 0, LEAST, 0, 4319, NONE);
        TideTable none = new TideTable();
        none.addPort();
        windows(none, 0, LEAST, 0, 4319, NONE);
        windows(none, -1, 0, 0, 4319, new int[] {1, 4320, 0, 4320});
    }

    private void promise17OutOfOrder() {
        TideTable x = Tides.evenWithPort();
        x.setPort(0, true, 200, 100);
        windows(x, 0, LEAST, 0, 4319, NONE);
        windows(x, -1, LEAST, 0, 4319, new int[] {1, 4320, 0, 4320});
        x.setPort(0, true, 199, 100);
        windows(x, 0, LEAST, 0, 4319, new int[] {1, 4300 - 299, 299, 4300 - 299});
    }

    /** "if there is no such port (and it is not -1)". */
    private void promise17ChiefPortIsLess1() {
        windows(Tides.even(), -1, 0, 0, 200, new int[] {1, 201, 0, 201});
        due.noIndex("no ports", () -> Tides.even().windows(0, 0, 0, 0, 0));
        TideTable x = Tides.evenWithPort();
        for (int port : new int[] {-2, 1, 6, LEAST, MOST}) {
            due.noIndex("windows(" + port + ")", () -> x.windows(port, 0, 0, 4319, 0));
        }
        TideTable full = Tides.full();
        due.same("the last port", full.windows(5, LEAST, 0, 4319, 0), 1);
        due.noIndex("behind the last port", () -> full.windows(6, 0, 0, 4319, 0));
    }

    /** "or what is not 0 to 3". */
    private void promise17WhatIs0To3() {
        TideTable x = Tides.evenWithPort();
        for (int what : new int[] {-1, 4, LEAST, MOST}) {
            due.noIndex("windows of the chief port, " + what,
                    () -> x.windows(-1, 0, 0, 4319, what));
            due.noIndex("windows of a port, " + what, () -> x.windows(0, 0, 0, 4319, what));
        }
    }
}
