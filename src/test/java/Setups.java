/** Objects that have been set up, and the names of what about and counter tell. */
final class Setups {
    static final int REQUESTS = 0;
    static final int SERVICE = 1;
    static final int MASK = 2;
    static final int LOWEST = 3;
    static final int BASE = 4;
    static final int LINES = 5;
    static final int LATCHES = 6;
    static final int READY = 7;

    static final int COUNT = 0;
    static final int OUTPUT = 1;
    static final int GATE = 2;
    static final int MODE = 3;
    static final int RELOAD = 4;
    static final int RUNS = 5;
    static final int TO_LOAD = 6;

    private Setups() {
    }

    /** Sets one controller up with three bytes, or four if fourth is not negative. */
    static void setUp(TickLines x, int controller, int base, int fourth) {
        int side0 = 2 * controller;
        x.write(side0, fourth < 0 ? 16 : 17);
        x.write(side0 + 1, base);
        x.write(side0 + 1, 4);
        if (fourth >= 0) {
            x.write(side0 + 1, fourth);
        }
    }

    /** Both controllers ready: BASE 32 and 40, nothing special. */
    static TickLines both() {
        TickLines x = new TickLines();
        setUp(x, 0, 32, -1);
        setUp(x, 1, 40, -1);
        return x;
    }

    static void on(TickLines x, int controller, int... lines) {
        for (int line : lines) {
            x.line(controller, line, true);
        }
    }

    /** Both controllers ready and in AUTO mode, so that what is served holds nothing back. */
    static TickLines bothAuto() {
        TickLines x = new TickLines();
        setUp(x, 0, 32, 2);
        setUp(x, 1, 40, 2);
        return x;
    }

    static void raise(TickLines x, int controller, int level) {
        set(x, controller, level, true);
    }

    static void lower(TickLines x, int controller, int level) {
        set(x, controller, level, false);
    }

    /** Sets any line, also those of controller 0 that only counter 0 and controller 1 can. */
    private static void set(TickLines x, int controller, int level, boolean on) {
        if (controller == 0 && level == 0) {
            mode(x, 0, on ? 2 : 0);
        } else if (controller == 0 && level == 2) {
            x.line(1, 7, on);
        } else {
            x.line(controller, level, on);
        }
    }

    /** All eight levels of a controller in service, one within the other; its lines are off. */
    static TickLines fullService(int controller) {
        TickLines x = both();
        for (int level = 7; level >= 0; level--) {
            raise(x, controller, level);
            poll(x, controller);
            lower(x, controller, level);
        }
        return x;
    }

    static void raiseAll(TickLines x, int controller) {
        for (int level = 0; level < 8; level++) {
            raise(x, controller, level);
        }
    }

    static int poll(TickLines x, int controller) {
        x.write(2 * controller, 12);
        return x.read(2 * controller);
    }

    /** All that about and counter tell (37 calls). */
    static String state(TickLines x) {
        StringBuilder text = new StringBuilder();
        for (int c = 0; c < 2; c++) {
            for (int what = 0; what < 8; what++) {
                text.append(x.about(c, what)).append(' ');
            }
        }
        for (int k = 0; k < 3; k++) {
            for (int what = 0; what < 7; what++) {
                text.append(x.counter(k, what)).append(' ');
            }
        }
        return text.toString();
    }

    /** Gives a counter the mode with both bytes as its access. */
    static void mode(TickLines x, int counter, int mode) {
        x.write(7, counter << 6 | 3 << 4 | mode << 1);
    }

    static void reload(TickLines x, int counter, int reload) {
        x.write(4 + counter, reload & 255);
        x.write(4 + counter, reload >> 8 & 255);
    }

    static TickLines counting(int counter, int mode, int reload) {
        TickLines x = new TickLines();
        mode(x, counter, mode);
        reload(x, counter, reload);
        return x;
    }

    static void trigger(TickLines x, int counter) {
        x.gate(counter, false);
        x.gate(counter, true);
    }

    /** The status of a counter, latched and read. */
    static int status(TickLines x, int counter) {
        x.write(7, 0xE0 | 2 << counter);
        return x.read(4 + counter);
    }

    /** Whether the STATUS of a counter has its 64. */
    static boolean pending(TickLines x, int counter) {
        return (status(x, counter) & 64) != 0;
    }

    /** The outputs behind each of n single ticks, as a text of 0 and 1. */
    static String outputs(TickLines x, int counter, int n) {
        StringBuilder text = new StringBuilder();
        for (int i = 0; i < n; i++) {
            x.tick(1);
            text.append(x.counter(counter, OUTPUT));
        }
        return text.toString();
    }

    /** The counts behind each of n single ticks, with blanks between. */
    static String counts(TickLines x, int counter, int n) {
        StringBuilder text = new StringBuilder();
        for (int i = 0; i < n; i++) {
            x.tick(1);
            text.append(i == 0 ? "" : " ").append(x.counter(counter, COUNT));
        }
        return text.toString();
    }
}
