/** Promises 18 to 22, with answers reckoned by hand from the document. */
public final class ReadingsTest {
    private static final int LEAST = Integer.MIN_VALUE;
    private static final int MOST = Integer.MAX_VALUE;

    private final Due due = new Due();

    public static void main(String[] args) {
        ReadingsTest test = new ReadingsTest();
        test.promise18Read();
        test.promise19Residual();
        test.promise20Worst();
        test.promise21Adjust();
        test.promise21AdjustAtTheEdge();
        test.promise22NewObject();
        test.promise22Digest();
        test.promise22DigestOfChangedTide();
        test.due.end("ReadingsTest");
    }

    private static TideTable evenTide() {
        TideTable x = new TideTable();
        x.addWave(1000, 400, 0);
        return x;
    }

    private void promise18Read() {
        TideTable x = evenTide();
        due.noArgument("read(-1, 0)", () -> x.read(-1, 0));
        due.noArgument("read(4320, 0)", () -> x.read(4320, 0));
        due.noArgument("read(0, 50001)", () -> x.read(0, 50001));
        due.noArgument("read(0, -50001)", () -> x.read(0, -50001));
        due.noArgument("read(MIN, MAX)", () -> x.read(LEAST, MOST));
        due.same("read(0, 50000)", x.read(0, 50000), 1);
        due.same("read(4319, -50000)", x.read(4319, -50000), 2);
        due.same("read again at the same time", x.read(0, 1), 3);
        for (int number = 4; number <= 40; number++) {
            due.same("read " + number, x.read(number, number), number);
        }
        due.noState("a reading too many", () -> x.read(0, 0));
        due.noArgument("a reading too many at a wrong time", () -> x.read(4320, 0));
        due.same("readings after it", x.count(3), 40);
    }

    private void promise19Residual() {
        TideTable x = evenTide();
        due.sameDouble("no readings", x.residual(), 0.0);
        x.read(100, 1003);
        due.sameDouble("one reading", x.residual(), 3.0);
        x.read(300, -1004);
        due.sameDouble("a half is told", x.residual(), -0.5);
        x.read(0, 0);
        due.sameDouble("a third is told", x.residual(), -1.0 / 3.0);
        x.setRange(0, 500);
        due.sameDouble("by the waves of now", x.residual(), (503.0 - 504.0 + 0.0) / 3.0);
        x.setLevel(10);
        due.sameDouble("by the level of now", x.residual(), -31.0 / 3.0);
        TideTable zero = evenTide();
        zero.read(0, 5);
        zero.read(0, -5);
        due.sameDouble("a sum of 0", zero.residual(), 0.0);
    }

    private void promise20Worst() {
        TideTable x = evenTide();
        due.same("no readings", x.worst(), -1);
        x.read(0, 0);
        due.same("one reading without difference", x.worst(), 0);
        x.read(100, 990);
        due.same("a lesser one behind it", x.worst(), 1);
        x.read(300, -990);
        due.same("the same difference, the other sign", x.worst(), 1);
        x.read(300, -1011);
        due.same("a greater difference", x.worst(), 3);
        x.setLevel(-20);
        due.same("by the level of now", x.worst(), 2);
    }

    private void promise21Adjust() {
        TideTable x = evenTide();
        due.noState("no readings", x::adjust);
        due.same("the high water", x.water(0, 1), 1000);
        x.read(0, -10);
        x.read(100, 1003);
        due.same("-7 / 2, cut towards 0", x.adjust(), -3);
        due.same("readings are forgotten", x.count(3), 0);
        due.same("the high water follows the level", x.water(0, 1), 997);
        due.noState("no readings any more", x::adjust);
        due.same("the level", x.setLevel(100), -3);
        due.same("a first reading again", x.read(0, 108), 1);
        due.same("raised on the level", x.adjust(), 8);
        due.same("the level then", x.setLevel(0), 108);
    }

    private void promise21AdjustAtTheEdge() {
        TideTable x = new TideTable();
        x.read(0, 10000);
        due.same("up to 10000", x.adjust(), 10000);
        x.read(0, 10001);
        due.noState("above 10000", x::adjust);
        due.same("the reading stays", x.count(3), 1);
        due.same("the level stays", x.setLevel(0), 10000);
        x.read(0, -30001);
        due.same("down to -10000", x.adjust(), -10000);
        x.read(0, -10001);
        due.noState("below -10000", x::adjust);
        due.same("the level stays again", x.setLevel(0), -10000);
    }

    private void promise22NewObject() {
        long d = 313;
        for (int number = 0; number < 4 + 1 + 5; number++) {
            d = d * 31;
        }
        due.same("digest of a new object", new TideTable().digest(), d);
    }

    private void sameDigest(String what, TideTable x, int level) {
        long d = 313;
        for (int asked = 0; asked <= 3; asked++) {
            d = d * 31 + x.count(asked);
        }
        d = d * 31 + level;
        int waters = x.count(1);
        for (int water = 0; water < waters; water++) {
            for (int asked = 0; asked <= 2; asked++) {
                d = d * 31 + x.water(water, asked);
            }
        }
        int ports = x.count(2);
        for (int port = 0; port < ports; port++) {
            d = d * 31 + (x.isInOrder(port) ? 1 : 0);
            for (int water = 0; water < waters; water++) {
                d = d * 31 + x.portWater(port, water, true);
                d = d * 31 + x.portWater(port, water, false);
            }
        }
        for (int asked = 0; asked <= 4; asked++) {
            d = d * 31 + x.datum(asked);
        }
        due.same(what, x.digest(), d);
        due.same(what + ", asked again", x.digest(), d);
    }

    private static TideTable withPorts() {
        TideTable x = evenTide();
        x.setLevel(-700);
        x.addPort();
        x.addPort();
        x.setPort(1, true, 200, 31);
        x.setPort(0, false, -9, 77);
        x.setAddition(0, 12);
        x.read(7, 7);
        return x;
    }

    private void promise22Digest() {
        sameDigest("digest of a tide", evenTide(), 0);
        sameDigest("digest with ports and a reading", withPorts(), -700);
    }

    private void promise22DigestOfChangedTide() {
        TideTable x = withPorts();
        x.digest();
        x.addWave(300, 410, 5);
        sameDigest("digest of two waves", x, -700);
        TideTable adjusted = withPorts();
        adjusted.digest();
        int raised = adjusted.adjust();
        sameDigest("digest behind adjust", adjusted, -700 + raised);
    }
}
