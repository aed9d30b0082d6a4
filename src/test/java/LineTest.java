/** Promise 4. */
public final class LineTest {
    private static final Checks CHECKS = new Checks();

    public static void main(String[] args) {
        wrongInputs();
        for (int c = 0; c < 2; c++) {
            linesAndLatches(c);
            levelMode(c);
        }
        lineTwoFollows();
        lineTwoWithoutPause();
        CHECKS.end();
    }

    private static void wrongInputs() {
        TickLines x = Setups.both();
        int[] bad = {Integer.MIN_VALUE, -1, 8, Integer.MAX_VALUE};
        for (int wrong : bad) {
            for (int c = 0; c < 2; c++) {
                CHECKS.no("line(" + c + ", " + wrong + ")", x.line(c, wrong, true));
            }
        }
        for (int c : new int[] {Integer.MIN_VALUE, -1, 2, Integer.MAX_VALUE}) {
            for (int line = 0; line < 8; line++) {
                CHECKS.no("line(" + c + ", " + line + ")", x.line(c, line, true));
            }
        }
        CHECKS.no("line(0, 0, true)", x.line(0, 0, true));
        CHECKS.no("line(0, 2, true)", x.line(0, 2, true));
        CHECKS.same("lines of 0", x.about(0, Setups.LINES), 0);
        CHECKS.same("lines of 1", x.about(1, Setups.LINES), 0);
        CHECKS.yes("line(1, 0, true)", x.line(1, 0, true));
        CHECKS.no("line(0, 2, false)", x.line(0, 2, false));
        CHECKS.same("line 2 stays on", x.about(0, Setups.LINES), 4);
        Setups.mode(x, 0, 2);
        CHECKS.no("line(0, 0, false)", x.line(0, 0, false));
        CHECKS.same("line 0 stays on", x.about(0, Setups.LINES), 5);
    }

    private static void linesAndLatches(int c) {
        for (int line = 0; line < 8; line++) {
            if (c == 0 && (line == 0 || line == 2)) {
                continue;
            }
            TickLines x = Setups.both();
            int bit = 1 << line;
            CHECKS.yes("off when it is off", x.line(c, line, false));
            CHECKS.same("no latch", x.about(c, Setups.LATCHES), 0);
            CHECKS.yes("on", x.line(c, line, true));
            CHECKS.same("line", x.about(c, Setups.LINES), bit);
            CHECKS.same("latch", x.about(c, Setups.LATCHES), bit);
            CHECKS.same("request", x.about(c, Setups.REQUESTS), bit);
            CHECKS.yes("off", x.line(c, line, false));
            CHECKS.same("line is off", x.about(c, Setups.LINES), 0);
            CHECKS.same("no request", x.about(c, Setups.REQUESTS), 0);
            CHECKS.same("the latch stays", x.about(c, Setups.LATCHES), bit);
            x.line(c, line, true);
            x.write(2 * c, 12);
            CHECKS.same("poll", x.read(2 * c), 128 + line);
            CHECKS.same("served", x.about(c, Setups.LATCHES), 0);
            CHECKS.yes("on when it is on", x.line(c, line, true));
            CHECKS.same("the latch is not set anew", x.about(c, Setups.LATCHES), 0);
            CHECKS.same("no request", x.about(c, Setups.REQUESTS), 0);
            x.line(c, line, false);
            x.line(c, line, true);
            CHECKS.same("it came on again", x.about(c, Setups.REQUESTS), bit);
        }
    }

    private static void levelMode(int c) {
        TickLines x = new TickLines();
        x.line(c, 4, true);
        x.write(2 * c, 0x1A);
        x.write(2 * c + 1, 0);
        CHECKS.same("on is enough", x.about(c, Setups.REQUESTS), 16);
        CHECKS.same("without a latch", x.about(c, Setups.LATCHES), 0);
        CHECKS.same("chosen", x.chosen(c), 4);
        x.line(c, 4, false);
        CHECKS.same("no request", x.about(c, Setups.REQUESTS), 0);
        x.line(c, 4, true);
        CHECKS.same("the latch is set in LEVEL mode too", x.about(c, Setups.LATCHES), 16);
        x.write(2 * c, 12);
        x.read(2 * c);
        CHECKS.same("served: the latch is off", x.about(c, Setups.LATCHES), 0);
        CHECKS.same("served: still a request", x.about(c, Setups.REQUESTS), 16);
        CHECKS.same("but itself holds", x.chosen(c), TickLines.NONE);
        x.write(2 * c, 0x20);
        CHECKS.same("chosen again", x.chosen(c), 4);
    }

    private static void lineTwoFollows() {
        TickLines x = new TickLines();
        Setups.setUp(x, 1, 40, -1);
        x.line(1, 5, true);
        CHECKS.same("line 2 of a controller that is not ready", x.about(0, Setups.LINES), 4);
        CHECKS.same("its latch", x.about(0, Setups.LATCHES), 4);
        x.write(3, 0x20);
        CHECKS.same("masked: off", x.about(0, Setups.LINES), 0);
        CHECKS.same("the latch stays", x.about(0, Setups.LATCHES), 4);
        Setups.setUp(x, 0, 32, -1);
        CHECKS.same("no latch behind setting up", x.about(0, Setups.LATCHES), 0);
        x.write(3, 0);
        CHECKS.same("chosen", x.chosen(0), 2);
        x.write(2, 16);
        CHECKS.same("setting up: off", x.about(0, Setups.LINES), 0);
        CHECKS.same("none is chosen", x.chosen(0), TickLines.NONE);
        x.line(1, 5, false);
        x.line(1, 5, true);
        CHECKS.same("none calls while setting up", x.about(0, Setups.LINES), 0);
        x.write(3, 8);
        x.write(3, 0);
        CHECKS.same("ready: on", x.about(0, Setups.LINES), 4);
        x.line(1, 5, false);
        CHECKS.same("line 5 is off", x.about(0, Setups.LINES), 0);
    }

    private static void lineTwoWithoutPause() {
        TickLines x = new TickLines();
        Setups.setUp(x, 0, 32, 2);
        Setups.setUp(x, 1, 40, 2);
        Setups.on(x, 1, 5, 6);
        CHECKS.same("vector", x.acknowledge(), 45);
        CHECKS.same("controller 1 calls on", x.chosen(1), 6);
        CHECKS.same("so line 2 never went off", x.about(0, Setups.LINES), 4);
        CHECKS.same("and did not come on", x.about(0, Setups.LATCHES), 0);
        CHECKS.same("none is chosen", x.chosen(0), TickLines.NONE);
    }
}
