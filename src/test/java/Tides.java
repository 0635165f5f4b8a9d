import java.util.function.LongSupplier;

/** Tides whose answers are known by hand, for the tests of the boundary cases. */
final class Tides {
    private Tides() {
    }

    /** One wave alone. */
    static TideTable of(int range, int period, int offset) {
        TideTable x = new TideTable();
        x.addWave(range, period, offset);
        return x;
    }

    /** Highs of 1000 at 100, 500 .. 4100 and lows of -1000 at 300, 700 .. 4300: 22 waters. */
    static TideTable even() {
        return of(1000, 400, 0);
    }

    static TideTable evenWithPort() {
        TideTable x = even();
        x.addPort();
        return x;
    }

    /** A high of 5000 at 2000, and no other water. */
    static TideTable oneHigh() {
        return of(5000, 8000, 0);
    }

    /** A low of -5000 at 2000, and no other water. */
    static TideTable oneLow() {
        return of(5000, 8000, 4000);
    }

    /** A high of 5000 at 1 and a low of -5000 at 4317, and no other water. */
    static TideTable farWaters() {
        return of(5000, 8632, 2157);
    }

    /** Rises from 0 to 1 at 147, stays so up to 854, and goes on likewise for 2002 minutes each. */
    static TideTable longTop(int offset) {
        return of(2, 2002, offset);
    }

    /** Two waves against each other, with 364 waters, some of them a minute apart. */
    static TideTable jagged() {
        TideTable x = of(5, 400, 0);
        x.addWave(5, 401, 200);
        return x;
    }

    /** As much as an object takes: 8 waves, 6 ports, 40 readings. */
    static TideTable full() {
        TideTable x = even();
        for (int wave = 1; wave < 8; wave++) {
            x.addWave(100 * wave, 500 + 70 * wave, 60 * wave);
        }
        for (int port = 0; port < 6; port++) {
            x.addPort();
            x.setPort(port, true, 5 * port, 100 - 9 * port);
            x.setPort(port, false, 5 * port, 80 + 9 * port);
            x.setAddition(port, 50 * port - 100);
        }
        for (int reading = 0; reading < 40; reading++) {
            x.read(100 * reading, 37 * reading - 700);
        }
        return x;
    }

    /** All that an object shows, in fewer than 100 calls: a call that changes it is seen in it. */
    static String everything(TideTable x) {
        StringBuilder told = new StringBuilder();
        tell(told, "digest", x::digest);
        told.append(" residual ").append(x.residual());
        tell(told, "worst", x::worst);
        for (int what = 0; what <= 3; what++) {
            int asked = what;
            tell(told, "count", () -> x.count(asked));
        }
        for (int wave = 0; wave < x.count(0); wave++) {
            int asked = wave;
            tell(told, "wave", () -> x.waveHeight(asked, 17));
            tell(told, "wave", () -> x.waveHeight(asked, 1711));
        }
        for (int time = 0; time < 4320; time += 617) {
            int asked = time;
            tell(told, "height", () -> x.height(asked));
        }
        for (int port = 0; port < x.count(2); port++) {
            int asked = port;
            tell(told, "port", () -> x.portHeight(asked, 1711));
            tell(told, "windows", () -> x.windows(asked, 0, 0, 4319, 1));
        }
        return told.toString();
    }

    private static void tell(StringBuilder told, String name, LongSupplier call) {
        told.append(' ').append(name).append(' ');
        try {
            told.append(call.getAsLong());
        } catch (IllegalStateException e) {
            told.append("not told");
        }
    }
}
