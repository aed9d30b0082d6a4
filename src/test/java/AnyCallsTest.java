/**
 * Long runs of calls with any arguments: nothing but what the document tells is thrown, and what
 * the terms say of the whole state holds behind each call.
 */
public final class AnyCallsTest {
    private static final Checks CHECKS = new Checks();
    /** With the calls that look at the state, fewer than the 512 that an object is used for. */
    private static final int STEPS = 90;
    private static long seed = 1;

    public static void main(String[] args) {
        for (int run = 0; run < 6000; run++) {
            TickLines x = run % 2 == 0 ? new TickLines() : Setups.both();
            for (int i = 0; i < STEPS; i++) {
                anyCall(x);
                if (i % 10 == 9) {
                    state(x);
                }
            }
        }
        CHECKS.end();
    }

    /** A number below the bound, the same row of them in every run of the test. */
    private static int below(int bound) {
        seed = seed * 6364136223846793005L + 1442695040888963407L;
        return (int) ((seed >>> 33) % bound);
    }

    private static int near(int bound) {
        return below(40) == 0 ? (below(2) == 0 ? -1 - below(3) : bound + below(3)) : below(bound);
    }

    private static void anyCall(TickLines x) {
        switch (below(9)) {
            case 0: case 1: anyWrite(x); break;
            case 2: anyRead(x); break;
            case 3: case 4: x.line(near(2), near(8), below(2) == 0); break;
            case 5: x.gate(near(3), below(2) == 0); break;
            case 6: anyTick(x); break;
            case 7: anyAcknowledge(x); break;
            default: x.chosen(near(2)); x.about(near(2), near(8)); x.counter(near(3), near(7)); break;
        }
    }

    private static void anyWrite(TickLines x) {
        int port = near(8);
        int value = below(3) == 0 ? below(6) : near(256);
        boolean bad = port < 0 || port > 7 || value < 0 || value > 255;
        if (bad) {
            CHECKS.badArgument("write(" + port + ", " + value + ")", () -> x.write(port, value));
        } else if (port > 3 && port < 7 && x.counter(port - 4, Setups.MODE) == TickLines.NONE) {
            CHECKS.badState("write(" + port + ", " + value + ")", () -> x.write(port, value));
        } else {
            x.write(port, value);
        }
    }

    private static void anyRead(TickLines x) {
        int port = near(8);
        if (port < 0 || port > 6) {
            CHECKS.badArgument("read(" + port + ")", () -> x.read(port));
        } else if (port > 3 && x.counter(port - 4, Setups.MODE) == TickLines.NONE) {
            CHECKS.badState("read(" + port + ")", () -> x.read(port));
        } else {
            int answer = x.read(port);
            CHECKS.yes("read(" + port + ") is a byte: " + answer, answer >= 0 && answer <= 255);
        }
    }

    private static void anyTick(TickLines x) {
        int n = below(3) == 0 ? near(101) : below(4);
        if (n < 0 || n > 100) {
            CHECKS.badArgument("tick(" + n + ")", () -> x.tick(n));
        } else {
            int answer = x.tick(n);
            CHECKS.yes("tick(" + n + ") answered " + answer, answer >= 0 && answer <= n);
        }
    }

    private static void anyAcknowledge(TickLines x) {
        if (x.about(0, Setups.READY) == 0) {
            CHECKS.badState("acknowledge()", x::acknowledge);
            return;
        }
        int level = x.chosen(0);
        int behind = x.chosen(1);
        int answer = x.acknowledge();
        int own = x.about(0, Setups.BASE) + (level < 0 ? 7 : level);
        int other = x.about(1, Setups.BASE) + behind;
        CHECKS.yes("acknowledge() answered " + answer, answer == own || level == 2 && answer == other);
    }

    private static void state(TickLines x) {
        int lines = x.about(0, Setups.LINES);
        CHECKS.same("line 0", lines & 1, x.counter(0, Setups.OUTPUT));
        CHECKS.same("line 2", lines >> 2 & 1, x.chosen(1) == TickLines.NONE ? 0 : 1);
        for (int c = 0; c < 2; c++) {
            int requests = x.about(c, Setups.REQUESTS);
            int level = x.chosen(c);
            CHECKS.same("requests are on", requests & ~x.about(c, Setups.LINES), 0);
            CHECKS.yes("a chosen level is a request", level == TickLines.NONE || (requests >> level & 1) == 1);
            CHECKS.yes("none if not ready", level == TickLines.NONE || x.about(c, Setups.READY) == 1);
            CHECKS.same("BASE", x.about(c, Setups.BASE) & 7, 0);
        }
        for (int k = 0; k < 3; k++) {
            int count = x.counter(k, Setups.COUNT);
            int reload = x.counter(k, Setups.RELOAD);
            int mode = x.counter(k, Setups.MODE);
            CHECKS.yes("COUNT " + count, count >= 0 && count <= 65535);
            CHECKS.yes("RELOAD " + reload, reload >= 0 && reload <= 65536);
            CHECKS.yes("mode " + mode, mode >= -1 && mode <= 5);
            CHECKS.yes("EMPTY ones stand still", reload != 0 || x.counter(k, Setups.RUNS) + x.counter(k, Setups.TO_LOAD) == 0);
        }
    }
}
