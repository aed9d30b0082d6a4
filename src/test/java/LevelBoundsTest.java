/** The boundary cases that the terms name for lines, requests, levels, what is chosen and served. */
public final class LevelBoundsTest {
    private static final Checks CHECKS = new Checks();

    public static void main(String[] args) {
        for (int c = 0; c < 2; c++) {
            latchIsSetWhenTheLineComesOn(c);
            requestNeedsLineAndLatch(c);
            requestInLevelMode(c);
            priorityGoesRound(c);
            maskedLevelsHold(c);
            chosenIfReady(c);
            chosenIfNotMasked(c);
            chosenIfNoneHolds(c);
            serveWithoutAuto(c);
            serveInAuto(c);
            serveInAutoThatTurns(c);
        }
        nestedLevelTwo();
        nestedNoOtherLevel();
        nestedBehindOneThatHolds();
        lineZeroFollows();
        lineTwoFollows();
        CHECKS.end();
    }

    private static void latchIsSetWhenTheLineComesOn(int c) {
        CHECKS.words("with a LATCH each, set when the line comes on");
        for (int level = 0; level < 8; level++) {
            TickLines x = Setups.bothAuto();
            Setups.lower(x, c, level);
            CHECKS.same("latches, off before and off", x.about(c, Setups.LATCHES), 0);
            Setups.raise(x, c, level);
            CHECKS.same("latches, it came on", x.about(c, Setups.LATCHES), 1 << level);
            Setups.poll(x, c);
            Setups.raise(x, c, level);
            CHECKS.same("latches, on before and on", x.about(c, Setups.LATCHES), 0);
            Setups.lower(x, c, level);
            CHECKS.same("latches, it went off", x.about(c, Setups.LATCHES), 0);
            Setups.raise(x, c, level);
            CHECKS.same("latches, it came on again", x.about(c, Setups.LATCHES), 1 << level);
        }
    }

    private static void requestNeedsLineAndLatch(int c) {
        CHECKS.words("A line is a REQUEST if it is on and its latch is set");
        for (int level = 0; level < 8; level++) {
            TickLines x = Setups.bothAuto();
            Setups.raise(x, c, level);
            CHECKS.same("requests, on and latched", x.about(c, Setups.REQUESTS), 1 << level);
            Setups.lower(x, c, level);
            CHECKS.same("requests, latched alone", x.about(c, Setups.REQUESTS), 0);
            CHECKS.same("chosen, latched alone", x.chosen(c), TickLines.NONE);
            Setups.raise(x, c, level);
            Setups.poll(x, c);
            CHECKS.same("lines", x.about(c, Setups.LINES), 1 << level);
            CHECKS.same("requests, on alone", x.about(c, Setups.REQUESTS), 0);
            CHECKS.same("chosen, on alone", x.chosen(c), TickLines.NONE);
        }
    }

    private static void requestInLevelMode(int c) {
        CHECKS.words("(in LEVEL mode: if it is on)");
        for (int level = 0; level < 8; level++) {
            TickLines x = Setups.bothAuto();
            Setups.raise(x, c, level);
            x.write(2 * c, 0x1B);
            x.write(2 * c + 1, 0);
            x.write(2 * c + 1, 2);
            CHECKS.same("latches", x.about(c, Setups.LATCHES), 0);
            CHECKS.same("requests, on alone", x.about(c, Setups.REQUESTS), 1 << level);
            CHECKS.same("poll", Setups.poll(x, c), 128 + level);
            CHECKS.same("poll again, as it is on", Setups.poll(x, c), 128 + level);
            Setups.lower(x, c, level);
            Setups.raise(x, c, level);
            Setups.lower(x, c, level);
            CHECKS.same("requests, latched alone", x.about(c, Setups.REQUESTS), 0);
            CHECKS.same("chosen, latched alone", x.chosen(c), TickLines.NONE);
        }
    }

    private static void priorityGoesRound(int c) {
        CHECKS.words("LEVELS in order of priority: LOWEST + 1, LOWEST + 2, .. LOWEST, all mod 8");
        for (int lowest = 0; lowest < 8; lowest++) {
            TickLines x = Setups.bothAuto();
            Setups.raiseAll(x, c);
            x.write(2 * c, 0xC0 | lowest);
            for (int i = 1; i <= 8; i++) {
                CHECKS.same("LOWEST " + lowest + ", poll " + i, Setups.poll(x, c), 128 + (lowest + i) % 8);
            }
            CHECKS.same("LOWEST " + lowest + ", poll behind the last", Setups.poll(x, c), 0);
        }
    }

    /** An object with one level of a controller in service, whose line is off. */
    private static TickLines inService(int c, int level) {
        TickLines x = Setups.both();
        Setups.raise(x, c, level);
        CHECKS.same("poll", Setups.poll(x, c), 128 + level);
        Setups.lower(x, c, level);
        CHECKS.same("service", x.about(c, Setups.SERVICE), 1 << level);
        return x;
    }

    private static void maskedLevelsHold(int c) {
        CHECKS.words("Levels in service HOLD (in SPECIAL mode only those that are not masked)");
        for (int level = 0; level < 7; level++) {
            TickLines x = inService(c, level);
            int behind = level == 1 ? 3 : level + 1;
            Setups.raise(x, c, behind);
            x.write(2 * c + 1, 1 << level);
            CHECKS.same("not SPECIAL, masked", x.chosen(c), TickLines.NONE);
            x.write(2 * c, 0x68);
            CHECKS.same("SPECIAL, masked", x.chosen(c), behind);
            x.write(2 * c + 1, 0xFF & ~(1 << level | 1 << behind));
            CHECKS.same("SPECIAL, not masked", x.chosen(c), TickLines.NONE);
            x.write(2 * c + 1, 0xFF & ~(1 << behind));
            CHECKS.same("SPECIAL, masked with others", x.chosen(c), behind);
            x.write(2 * c, 0x48);
            CHECKS.same("SPECIAL no more, masked", x.chosen(c), TickLines.NONE);
        }
    }

    private static void chosenIfReady(int c) {
        CHECKS.words("The CHOSEN level of a controller that is ready");
        TickLines x = new TickLines();
        Setups.setUp(x, 1 - c, 0, -1);
        x.line(c, 5, true);
        CHECKS.same("requests before setting up", x.about(c, Setups.REQUESTS), 32);
        CHECKS.same("chosen before setting up", x.chosen(c), TickLines.NONE);
        x.write(2 * c, 17);
        for (int i = 0; i < 3; i++) {
            x.line(c, 5, false);
            x.line(c, 5, true);
            CHECKS.same("requests before byte " + (2 + i), x.about(c, Setups.REQUESTS), 32);
            CHECKS.same("chosen before byte " + (2 + i), x.chosen(c), TickLines.NONE);
            x.write(2 * c + 1, 0);
        }
        CHECKS.same("chosen behind the last byte", x.chosen(c), 5);
    }

    private static void chosenIfNotMasked(int c) {
        CHECKS.words("the first that is a request and not masked");
        TickLines x = Setups.both();
        CHECKS.same("without a request", x.chosen(c), TickLines.NONE);
        Setups.raiseAll(x, c);
        for (int level = 0; level < 8; level++) {
            x.write(2 * c + 1, (1 << level) - 1);
            CHECKS.same("masked below " + level, x.chosen(c), level);
            x.write(2 * c + 1, 0xFF & ~(1 << level));
            CHECKS.same("all masked but " + level, x.chosen(c), level);
        }
        x.write(2 * c + 1, 0xFF);
        CHECKS.same("all masked", x.chosen(c), TickLines.NONE);
    }

    private static void chosenIfNoneHolds(int c) {
        CHECKS.words("if no level before it, nor itself, holds");
        for (int held = 0; held < 8; held++) {
            for (int asked = 0; asked < 8; asked++) {
                TickLines x = inService(c, held);
                Setups.raise(x, c, asked);
                for (int lowest = 0; lowest < 8; lowest++) {
                    x.write(2 * c, 0xC0 | lowest);
                    boolean before = (asked - lowest + 7) % 8 < (held - lowest + 7) % 8;
                    int due = before ? asked : TickLines.NONE;
                    CHECKS.same(held + " holds, " + asked + " asks, LOWEST " + lowest, x.chosen(c), due);
                }
            }
        }
    }

    private static TickLines nested() {
        TickLines x = new TickLines();
        Setups.setUp(x, 0, 32, 0x10);
        Setups.setUp(x, 1, 40, 0x10);
        return x;
    }

    private static void nestedLevelTwo() {
        CHECKS.words("but in NESTED mode level 2 of controller 0 may be chosen though itself holds");
        TickLines x = nested();
        Setups.raise(x, 0, 2);
        CHECKS.same("poll", Setups.poll(x, 0), 130);
        Setups.lower(x, 0, 2);
        CHECKS.same("without a request", x.chosen(0), TickLines.NONE);
        Setups.raise(x, 0, 2);
        CHECKS.same("NESTED", x.chosen(0), 2);
        x.write(1, 4);
        CHECKS.same("NESTED, masked", x.chosen(0), TickLines.NONE);

        x = inService(0, 2);
        Setups.raise(x, 0, 2);
        CHECKS.same("not NESTED", x.chosen(0), TickLines.NONE);
    }

    private static void nestedNoOtherLevel() {
        CHECKS.words("but in NESTED mode level 2 of controller 0 may be chosen though itself holds");
        for (int c = 0; c < 2; c++) {
            for (int level = 0; level < 8; level++) {
                TickLines x = nested();
                Setups.raise(x, c, level);
                Setups.poll(x, c);
                Setups.lower(x, c, level);
                Setups.raise(x, c, level);
                int due = c == 0 && level == 2 ? 2 : TickLines.NONE;
                CHECKS.same("controller " + c + ", level " + level, x.chosen(c), due);
            }
        }
    }

    private static void nestedBehindOneThatHolds() {
        CHECKS.words("if no level before it, nor itself, holds; but in NESTED mode level 2");
        for (int held : new int[] {0, 1, 3, 4, 5, 6, 7}) {
            TickLines x = nested();
            Setups.raise(x, 0, 2);
            Setups.poll(x, 0);
            Setups.lower(x, 0, 2);
            // So that the other level goes before level 2 and can be served too.
            x.write(0, 0xC2);
            Setups.raise(x, 0, held);
            CHECKS.same("poll", Setups.poll(x, 0), 128 + held);
            Setups.lower(x, 0, held);
            Setups.raise(x, 0, 2);
            CHECKS.same("a level before it holds: " + held, x.chosen(0), TickLines.NONE);
            x.write(0, 0xC1);
            CHECKS.same("a level behind it holds: " + held, x.chosen(0), 2);
        }
    }

    private static void serveWithoutAuto(int c) {
        CHECKS.words("To SERVE a level: its latch is off; .. not in AUTO mode, it is in service");
        TickLines x = Setups.both();
        x.write(2 * c, 0x80);
        int service = 0;
        for (int level = 7; level >= 0; level--) {
            Setups.raise(x, c, level);
            CHECKS.same("poll", Setups.poll(x, c), 128 + level);
            service |= 1 << level;
            CHECKS.same("latches", x.about(c, Setups.LATCHES), 0);
            CHECKS.same("service", x.about(c, Setups.SERVICE), service);
            CHECKS.same("LOWEST, though it TURNS", x.about(c, Setups.LOWEST), 7);
        }
        CHECKS.same("service, all in it", service, 0xFF);
    }

    private static void serveInAuto(int c) {
        CHECKS.words("in AUTO mode, if it TURNS, LOWEST is that level");
        TickLines x = Setups.bothAuto();
        for (int level = 0; level < 8; level++) {
            Setups.raise(x, c, level);
            CHECKS.same("poll", Setups.poll(x, c), 128 + level);
            CHECKS.same("latches", x.about(c, Setups.LATCHES), 0);
            CHECKS.same("service", x.about(c, Setups.SERVICE), 0);
            CHECKS.same("LOWEST, it does not turn", x.about(c, Setups.LOWEST), 7);
        }
    }

    private static void serveInAutoThatTurns(int c) {
        CHECKS.words("in AUTO mode, if it TURNS, LOWEST is that level");
        TickLines x = Setups.bothAuto();
        x.write(2 * c, 0x80);
        for (int level = 0; level < 8; level++) {
            Setups.raise(x, c, level);
            CHECKS.same("poll", Setups.poll(x, c), 128 + level);
            CHECKS.same("LOWEST", x.about(c, Setups.LOWEST), level);
            CHECKS.same("service", x.about(c, Setups.SERVICE), 0);
            CHECKS.same("poll in vain", Setups.poll(x, c), 0);
            CHECKS.same("LOWEST behind a poll in vain", x.about(c, Setups.LOWEST), level);
        }
    }

    private static void lineZeroFollows() {
        CHECKS.words("Line 0 of controller 0 is the output of counter 0 .. after each call and each tick");
        TickLines x = Setups.bothAuto();
        CHECKS.same("off at first", x.about(0, Setups.LINES), 0);
        x.write(7, 0x34);
        CHECKS.same("behind write", x.about(0, Setups.LINES), 1);
        Setups.poll(x, 0);
        Setups.reload(x, 0, 2);
        x.tick(2);
        CHECKS.same("behind tick", x.about(0, Setups.LINES), 0);
        CHECKS.same("latches, it went off", x.about(0, Setups.LATCHES), 0);
        x.gate(0, false);
        CHECKS.same("behind gate", x.about(0, Setups.LINES), 1);
        CHECKS.same("latches, it came on", x.about(0, Setups.LATCHES), 1);
        Setups.poll(x, 0);
        x.gate(0, true);
        x.tick(4);
        CHECKS.same("off behind the last of four ticks", x.about(0, Setups.LINES), 0);
        CHECKS.same("latches, it came on within them", x.about(0, Setups.LATCHES), 1);
    }

    private static void lineTwoFollows() {
        CHECKS.words("line 2 of it is on while controller 1 calls: they follow after each call");
        TickLines x = Setups.both();
        CHECKS.same("off at first", x.about(0, Setups.LINES), 0);
        x.line(1, 0, true);
        CHECKS.same("behind line", x.about(0, Setups.LINES), 4);
        x.write(3, 1);
        CHECKS.same("behind write of MASK", x.about(0, Setups.LINES), 0);
        x.write(3, 0);
        CHECKS.same("behind write of MASK", x.about(0, Setups.LINES), 4);
        Setups.poll(x, 1);
        CHECKS.same("behind read", x.about(0, Setups.LINES), 0);
        x.line(1, 0, false);
        x.line(1, 0, true);
        CHECKS.same("itself holds", x.about(0, Setups.LINES), 0);
        x.write(2, 0x20);
        CHECKS.same("behind the end of service", x.about(0, Setups.LINES), 4);
        x.acknowledge();
        CHECKS.same("behind acknowledge", x.about(0, Setups.LINES), 0);
        x.write(2, 0x20);
        x.line(1, 0, false);
        x.line(1, 0, true);
        x.write(2, 16);
        CHECKS.same("behind the beginning of setting up", x.about(0, Setups.LINES), 0);
    }
}
