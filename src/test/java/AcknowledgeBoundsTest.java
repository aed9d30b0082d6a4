/**
 * The boundary cases that the terms name for acknowledging.
 *
 * That controller 1 has no chosen level though level 2 of controller 0 is served can't be brought
 * about: line 2 is off then. What can be is a call of level 2 that was taken back.
 */
public final class AcknowledgeBoundsTest {
    private static final Checks CHECKS = new Checks();

    public static void main(String[] args) {
        vectorOfEachLevel();
        vectorInVain();
        vectorInVainWhileOneHolds();
        vectorOfTheOther();
        vectorOfTheOtherTakenBack();
        vectorOfTheOtherNotReady();
        vectorOfSingle();
        CHECKS.end();
    }

    private static void vectorOfEachLevel() {
        CHECKS.words("with the chosen level r of controller 0, which is served, the VECTOR is its BASE + r");
        for (int base = 0; base < 256; base += 8) {
            for (int level : new int[] {0, 1, 3, 4, 5, 6, 7}) {
                TickLines x = new TickLines();
                Setups.setUp(x, 0, base, -1);
                Setups.raise(x, 0, level);
                CHECKS.same("BASE " + base + ", level " + level, x.acknowledge(), base + level);
                CHECKS.same("latches", x.about(0, Setups.LATCHES), 0);
                CHECKS.same("service", x.about(0, Setups.SERVICE), 1 << level);
            }
        }
    }

    private static void vectorInVain() {
        CHECKS.words("BASE + 7 if there is none");
        for (int base = 0; base < 256; base += 8) {
            for (int first = 16; first < 20; first++) {
                TickLines x = new TickLines();
                x.write(0, first);
                for (int i = 0; x.about(0, Setups.READY) == 0 && i < 3; i++) {
                    x.write(1, i == 0 ? base : 2);
                }
                String before = Setups.state(x);
                CHECKS.same("BASE " + base + ", first byte " + first, x.acknowledge(), base + 7);
                CHECKS.text("the state", Setups.state(x), before);
            }
        }
    }

    private static void vectorInVainWhileOneHolds() {
        CHECKS.words("BASE + 7 if there is none");
        TickLines x = Setups.both();
        Setups.on(x, 0, 1, 5);
        CHECKS.same("level 1", x.acknowledge(), 33);
        String before = Setups.state(x);
        CHECKS.same("level 5 is held back", x.acknowledge(), 39);
        CHECKS.text("the state", Setups.state(x), before);
        x.write(0, 0x20);
        x.write(1, 0xFF);
        before = Setups.state(x);
        CHECKS.same("all are masked", x.acknowledge(), 39);
        CHECKS.text("the state", Setups.state(x), before);
        x.write(1, 0);
        x.line(0, 5, false);
        before = Setups.state(x);
        CHECKS.same("its line went off", x.acknowledge(), 39);
        CHECKS.text("the state", Setups.state(x), before);
    }

    private static void vectorOfTheOther() {
        CHECKS.words("but if r is 2 and controller 0 is not SINGLE, it is likewise that of controller 1");
        for (int base = 0; base < 256; base += 8) {
            for (int level = 0; level < 8; level++) {
                TickLines x = new TickLines();
                Setups.setUp(x, 0, 248 - base, -1);
                Setups.setUp(x, 1, base, -1);
                x.line(1, level, true);
                CHECKS.same("BASE " + base + ", level " + level, x.acknowledge(), base + level);
                CHECKS.same("service of 0", x.about(0, Setups.SERVICE), 4);
                CHECKS.same("service of 1", x.about(1, Setups.SERVICE), 1 << level);
                CHECKS.same("latches of 1", x.about(1, Setups.LATCHES), 0);
            }
        }
    }

    private static void vectorOfTheOtherTakenBack() {
        CHECKS.words("BASE + 7 if there is none or it is not ready");
        TickLines x = Setups.both();
        x.line(1, 6, true);
        x.line(1, 6, false);
        CHECKS.same("latches, level 2 is", x.about(0, Setups.LATCHES), 4);
        CHECKS.same("BASE of controller 0, as r is not 2", x.acknowledge(), 39);
        CHECKS.same("service of 0", x.about(0, Setups.SERVICE), 0);
        CHECKS.same("service of 1", x.about(1, Setups.SERVICE), 0);
        CHECKS.same("latches of 1", x.about(1, Setups.LATCHES), 64);
    }

    private static void vectorOfTheOtherNotReady() {
        CHECKS.words("BASE + 7 if there is none or it is not ready");
        TickLines x = Setups.both();
        x.line(1, 6, true);
        x.write(2, 0x1A);
        CHECKS.same("requests of 1, LEVEL", x.about(1, Setups.REQUESTS), 64);
        CHECKS.same("BASE of controller 0, as r is not 2", x.acknowledge(), 39);
        CHECKS.same("service of 0", x.about(0, Setups.SERVICE), 0);
        CHECKS.same("service of 1", x.about(1, Setups.SERVICE), 0);
        x.write(3, 40);
        CHECKS.same("ready", x.acknowledge(), 46);
    }

    private static void vectorOfSingle() {
        CHECKS.words("but if r is 2 and controller 0 is not SINGLE");
        for (int level = 0; level < 8; level++) {
            TickLines x = Setups.both();
            x.write(0, 0x12);
            x.write(1, 32);
            x.line(1, level, true);
            CHECKS.same("controller 0 is SINGLE", x.acknowledge(), 34);
            CHECKS.same("service of 0", x.about(0, Setups.SERVICE), 4);
            CHECKS.same("service of 1", x.about(1, Setups.SERVICE), 0);
            CHECKS.same("chosen of 1", x.chosen(1), level);

            x = Setups.both();
            x.write(2, 0x12);
            x.write(3, 40);
            x.line(1, level, true);
            CHECKS.same("controller 1 is SINGLE", x.acknowledge(), 40 + level);
        }
    }
}
