/** Promise 8. */
public final class ChosenTest {
    private static final Checks CHECKS = new Checks();

    public static void main(String[] args) {
        wrongInputs();
        for (int c = 0; c < 2; c++) {
            priorities(c);
            holding(c);
        }
        special();
        nested();
        nestedElsewhere();
        CHECKS.end();
    }

    private static void wrongInputs() {
        TickLines x = Setups.both();
        Setups.on(x, 0, 1);
        Setups.on(x, 1, 1);
        for (int c : new int[] {Integer.MIN_VALUE, -1, 2, 3, Integer.MAX_VALUE}) {
            CHECKS.same("chosen(" + c + ")", x.chosen(c), TickLines.NONE);
        }
        CHECKS.same("chosen(0)", x.chosen(0), 1);
        CHECKS.same("chosen(1)", x.chosen(1), 1);
        CHECKS.same("it serves nothing", x.about(1, Setups.LATCHES), 2);
        x.write(2, 16);
        CHECKS.same("not ready", x.chosen(1), TickLines.NONE);
    }

    private static void priorities(int c) {
        for (int lowest = 0; lowest < 8; lowest++) {
            TickLines x = Setups.both();
            x.write(2 * c, 0xC0 | lowest);
            for (int i = 0; i < 8; i++) {
                int level = lowest - i + 8 & 7;
                if (x.line(c, level, true)) {
                    CHECKS.same("LOWEST " + lowest, x.chosen(c), level);
                }
            }
            int first = x.chosen(c);
            x.write(2 * c + 1, 1 << first);
            CHECKS.yes("a masked one is passed over", x.chosen(c) != first);
            x.write(2 * c + 1, 255);
            CHECKS.same("all are masked", x.chosen(c), TickLines.NONE);
        }
    }

    private static void holding(int c) {
        TickLines x = Setups.both();
        Setups.on(x, c, 4);
        x.write(2 * c, 12);
        x.read(2 * c);
        for (int level : new int[] {7, 6, 5}) {
            x.line(c, level, true);
            CHECKS.same("behind the one in service", x.chosen(c), TickLines.NONE);
        }
        x.line(c, 4, false);
        x.line(c, 4, true);
        CHECKS.same("itself is in service", x.chosen(c), TickLines.NONE);
        x.line(c, 3, true);
        CHECKS.same("before the one in service", x.chosen(c), 3);
        x.line(c, 3, false);
        x.write(2 * c + 1, 0x10);
        CHECKS.same("a masked level holds as well", x.chosen(c), TickLines.NONE);
        x.write(2 * c, 0xC4);
        CHECKS.same("turned: 5 is before 4", x.chosen(c), 5);
    }

    private static void special() {
        TickLines x = Setups.both();
        Setups.on(x, 0, 4);
        CHECKS.same("vector", x.acknowledge(), 36);
        Setups.on(x, 0, 6);
        x.write(0, 0x68);
        CHECKS.same("not masked, so it holds", x.chosen(0), TickLines.NONE);
        x.write(1, 0x10);
        CHECKS.same("masked, so it does not", x.chosen(0), 6);
        x.write(0, 0x48);
        CHECKS.same("SPECIAL is off", x.chosen(0), TickLines.NONE);
    }

    private static void nested() {
        TickLines x = new TickLines();
        Setups.setUp(x, 0, 32, 0x10);
        Setups.setUp(x, 1, 40, 0);
        Setups.on(x, 1, 5);
        CHECKS.same("vector", x.acknowledge(), 45);
        Setups.on(x, 0, 3);
        CHECKS.same("level 2 holds back level 3", x.chosen(0), TickLines.NONE);
        Setups.on(x, 1, 3);
        CHECKS.same("level 2 though itself holds", x.chosen(0), 2);
        Setups.on(x, 0, 1);
        CHECKS.same("level 1 goes first", x.acknowledge(), 33);
        CHECKS.same("a level before it holds", x.chosen(0), TickLines.NONE);
        x.write(0, 0x20);
        CHECKS.same("vector", x.acknowledge(), 43);
        CHECKS.same("service of 0", x.about(0, Setups.SERVICE), 4);
        CHECKS.same("service of 1", x.about(1, Setups.SERVICE), 0x28);

        x = Setups.both();
        Setups.on(x, 1, 5);
        x.acknowledge();
        Setups.on(x, 1, 3);
        CHECKS.same("not in NESTED mode", x.chosen(0), TickLines.NONE);
    }

    private static void nestedElsewhere() {
        TickLines x = new TickLines();
        Setups.setUp(x, 0, 32, 0x10);
        Setups.setUp(x, 1, 40, 0x10);
        Setups.on(x, 1, 2);
        x.acknowledge();
        x.line(1, 2, false);
        x.line(1, 2, true);
        CHECKS.same("level 2 of controller 1", x.chosen(1), TickLines.NONE);
        x.write(0, 0x20);
        Setups.on(x, 0, 3);
        x.acknowledge();
        x.line(0, 3, false);
        x.line(0, 3, true);
        CHECKS.same("level 3 of controller 0", x.chosen(0), TickLines.NONE);
    }
}
