/** Objects that have been set up, and the names of what about and counter tell. */
final class Setups {
    static final int REQUESTS = 0;
    static final int SERVICE = 1;
    static final int MASK = 2;
    static final int LOWEST = 3;
    static final int BASE = 4;
    static final int LINES = 5;
    static final int LATCHES = 6;
    static final int READY = 7;

    static final int COUNT = 0;
    static final int OUTPUT = 1;
    static final int GATE = 2;
    static final int MODE = 3;
    static final int RELOAD = 4;
    static final int RUNS = 5;
    static final int TO_LOAD = 6;

    private Setups() {
    }

    /** Sets one controller up with three bytes, or four if fourth is not negative. */
    static void setUp(TickLines x, int controller, int base, int fourth) {
        int side0 = 2 * controller;
        x.write(side0, fourth < 0 ? 16 : 17);
        x.write(side0 + 1, base);
        x.write(side0 + 1, 4);
        if (fourth >= 0) {
            x.write(side0 + 1, fourth);
        }
    }

    /** Both controllers ready: BASE 32 and 40, nothing special. */
    static TickLines both() {
        TickLines x = new TickLines();
        setUp(x, 0, 32, -1);
        setUp(x, 1, 40, -1);
        return x;
    }

    static void on(TickLines x, int controller, int... lines) {
        for (int line : lines) {
            x.line(controller, line, true);
        }
    }

    /** Gives a counter the mode with both bytes as its access. */
    static void mode(TickLines x, int counter, int mode) {
        x.write(7, counter << 6 | 3 << 4 | mode << 1);
    }

    static void reload(TickLines x, int counter, int reload) {
        x.write(4 + counter, reload & 255);
        x.write(4 + counter, reload >> 8 & 255);
    }

    static TickLines counting(int counter, int mode, int reload) {
        TickLines x = new TickLines();
        mode(x, counter, mode);
        reload(x, counter, reload);
        return x;
    }

    static void trigger(TickLines x, int counter) {
        x.gate(counter, false);
        x.gate(counter, true);
    }

    /** The status of a counter, latched and read. */
    static int status(TickLines x, int counter) {
        x.write(7, 0xE0 | 2 << counter);
        return x.read(4 + counter);
    }

    /** The outputs behind each of n single ticks, as a text of 0 and 1. */
    static String outputs(TickLines x, int counter, int n) {
        StringBuilder text = new StringBuilder();
        for (int i = 0; i < n; i++) {
            x.tick(1);
            text.append(x.counter(counter, OUTPUT));
        }
        return text.toString();
    }

    /** The counts behind each of n single ticks, with blanks between. */
    static String counts(TickLines x, int counter, int n) {
        StringBuilder text = new StringBuilder();
        for (int i = 0; i < n; i++) {
            x.tick(1);
            text.append(i == 0 ? "" : " ").append(x.counter(counter, COUNT));
        }
        return text.toString();
    }
}
