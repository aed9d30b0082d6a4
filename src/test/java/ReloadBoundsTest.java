/** The boundary cases that the terms name for the bytes written to a counter and for its gate. */
public final class ReloadBoundsTest {
    private static final Checks CHECKS = new Checks();
    private static final int MODES = 6;

    public static void main(String[] args) {
        for (int k = 0; k < 3; k++) {
            lowByteAlone(k);
            highByteAlone(k);
            lowThenHigh(k);
            zeroMeansTheLargest(k);
            zeroByteIsNoZero(k);
            emptyWithOneByteOfTwo(k);
            standsStillInModeZero(k);
            standsStillShownAsBefore(k);
            goesOnInOtherModes(k);
        }
        for (int k = 0; k < 3; k++) {
            loadedInModesZeroAndFour(k);
            outputOffInModeZero(k);
            loadedIfItWasEmpty(k);
            nothingMoreInModesOneAndFive(k);
            gateOfAnEmptyOne(k);
            gateComesOn(k);
            gateWasOn(k);
            gateGoesOff(k);
            gateWasOff(k);
            gateWithoutMode(k);
        }
        CHECKS.end();
    }

    private static TickLines withAccess(int k, int access, int mode) {
        TickLines x = new TickLines();
        x.write(7, k << 6 | access << 4 | mode << 1);
        return x;
    }

    private static boolean needsGate(int mode) {
        return mode == 1 || mode == 5;
    }

    private static void lowByteAlone(int k) {
        CHECKS.words("ACCESS 1: RELOAD is it");
        for (int value = 1; value < 256; value++) {
            TickLines x = withAccess(k, 1, value % MODES);
            x.write(4 + k, value);
            CHECKS.same("RELOAD", x.counter(k, Setups.RELOAD), value);
        }
    }

    private static void highByteAlone(int k) {
        CHECKS.words("2: 256 times it");
        for (int value = 1; value < 256; value++) {
            TickLines x = withAccess(k, 2, value % MODES);
            x.write(4 + k, value);
            CHECKS.same("RELOAD", x.counter(k, Setups.RELOAD), 256 * value);
        }
    }

    private static void lowThenHigh(int k) {
        CHECKS.words("3: of two bytes the low one first, then the high one");
        for (int mode = 0; mode < MODES; mode++) {
            TickLines x = withAccess(k, 3, mode);
            for (int reload : new int[] {1, 2, 254, 255, 256, 257, 0x1234, 65280, 65534, 65535}) {
                x.write(4 + k, reload & 255);
                x.write(4 + k, reload >> 8);
                CHECKS.same("RELOAD", x.counter(k, Setups.RELOAD), reload);
            }
        }
    }

    private static void zeroMeansTheLargest(int k) {
        CHECKS.words("(0 means 65536)");
        for (int mode = 0; mode < MODES; mode++) {
            for (int access = 1; access < 4; access++) {
                TickLines x = withAccess(k, access, mode);
                for (int i = 0; i < (access == 3 ? 2 : 1); i++) {
                    CHECKS.same("RELOAD, EMPTY", x.counter(k, Setups.RELOAD), 0);
                    x.write(4 + k, 0);
                }
                CHECKS.same("RELOAD, ACCESS " + access, x.counter(k, Setups.RELOAD), 65536);
                Setups.trigger(x, k);
                x.tick(1);
                CHECKS.same("it was not EMPTY, so it runs", x.counter(k, Setups.RUNS), 1);
            }
        }
    }

    private static void zeroByteIsNoZero(int k) {
        CHECKS.words("of two bytes the low one first, then the high one (0 means 65536)");
        TickLines x = withAccess(k, 3, 4);
        x.write(4 + k, 0);
        x.write(4 + k, 1);
        CHECKS.same("RELOAD, low byte 0", x.counter(k, Setups.RELOAD), 256);
        x.write(4 + k, 1);
        x.write(4 + k, 0);
        CHECKS.same("RELOAD, high byte 0", x.counter(k, Setups.RELOAD), 1);
    }

    private static void emptyWithOneByteOfTwo(int k) {
        CHECKS.words("3: of two bytes .. When RELOAD is whole");
        for (int mode = 0; mode < MODES; mode++) {
            TickLines x = withAccess(k, 3, mode);
            x.write(4 + k, 3);
            CHECKS.same("RELOAD", x.counter(k, Setups.RELOAD), 0);
            CHECKS.same("to be loaded", x.counter(k, Setups.TO_LOAD), 0);
            x.tick(5);
            CHECKS.same("runs", x.counter(k, Setups.RUNS), 0);
            CHECKS.same("COUNT", x.counter(k, Setups.COUNT), 0);
            x.write(4 + k, 0);
            x.write(4 + k, 9);
            CHECKS.same("RELOAD stays with a first byte", x.counter(k, Setups.RELOAD), 3);
            x.write(4 + k, 1);
            CHECKS.same("RELOAD with the second one", x.counter(k, Setups.RELOAD), 265);
        }
    }

    private static void standsStillInModeZero(int k) {
        CHECKS.words("With the first of two in mode 0 it stands still until the second one");
        TickLines x = Setups.counting(k, 0, 9);
        x.tick(3);
        x.write(4 + k, 2);
        x.tick(100);
        CHECKS.same("COUNT, it ran", x.counter(k, Setups.COUNT), 7);
        CHECKS.same("output", x.counter(k, Setups.OUTPUT), 0);
        x.write(4 + k, 0);
        CHECKS.text("COUNT, the second one was written", Setups.counts(x, k, 3), "2 1 0");

        x = Setups.counting(k, 0, 9);
        x.write(4 + k, 2);
        x.tick(100);
        CHECKS.same("COUNT, it was to be loaded", x.counter(k, Setups.COUNT), 0);
        x.write(4 + k, 0);
        CHECKS.text("COUNT, the second one was written", Setups.counts(x, k, 3), "2 1 0");

        x = withAccess(k, 1, 0);
        x.write(4 + k, 2);
        CHECKS.text("COUNT, one byte alone is no first of two", Setups.counts(x, k, 3), "2 1 0");
    }

    private static void standsStillShownAsBefore(int k) {
        CHECKS.words("(whether it runs, or is to be loaded, is shown as before)");
        TickLines x = Setups.counting(k, 0, 9);
        for (int load = 1; load >= 0; load--) {
            String before = Setups.state(x);
            x.write(4 + k, 2);
            CHECKS.text("the state with the first byte", Setups.state(x), before);
            x.tick(5);
            CHECKS.text("the state behind ticks", Setups.state(x), before);
            CHECKS.same("to be loaded", x.counter(k, Setups.TO_LOAD), load);
            CHECKS.same("runs", x.counter(k, Setups.RUNS), 1 - load);
            x.write(4 + k, 1);
            x.tick(1);
        }
    }

    private static void goesOnInOtherModes(int k) {
        CHECKS.words("With the first of two in mode 0 it stands still");
        for (int mode = 1; mode < MODES; mode++) {
            TickLines x = Setups.counting(k, mode, 40);
            Setups.trigger(x, k);
            x.write(4 + k, 2);
            x.tick(1);
            CHECKS.same("COUNT, loaded, mode " + mode, x.counter(k, Setups.COUNT), 40);
            x.tick(3);
            CHECKS.same("COUNT, mode " + mode, x.counter(k, Setups.COUNT), mode == 3 ? 34 : 37);
        }
    }

    private static void loadedInModesZeroAndFour(int k) {
        CHECKS.words("When RELOAD is whole: in modes 0 and 4 it is LOADED at the next tick");
        for (int mode : new int[] {0, 4}) {
            TickLines x = Setups.counting(k, mode, 9);
            CHECKS.same("to be loaded, it was EMPTY", x.counter(k, Setups.TO_LOAD), 1);
            Setups.reload(x, k, 7);
            CHECKS.same("to be loaded, it was so before", x.counter(k, Setups.TO_LOAD), 1);
            CHECKS.text("COUNT", Setups.counts(x, k, 2), "7 6");
            CHECKS.same("to be loaded no more", x.counter(k, Setups.TO_LOAD), 0);
            Setups.reload(x, k, 5);
            CHECKS.same("to be loaded, it runs", x.counter(k, Setups.TO_LOAD), 1);
            CHECKS.same("COUNT before the tick", x.counter(k, Setups.COUNT), 6);
            CHECKS.text("COUNT", Setups.counts(x, k, 7), "5 4 3 2 1 0 65535");
            Setups.reload(x, k, 3);
            CHECKS.text("COUNT, it had run down", Setups.counts(x, k, 2), "3 2");
        }
    }

    private static void outputOffInModeZero(int k) {
        CHECKS.words("in mode 0 the output is off");
        TickLines x = Setups.counting(k, 0, 1);
        x.tick(2);
        CHECKS.same("it ran down", x.counter(k, Setups.OUTPUT), 1);
        x.write(4 + k, 1);
        CHECKS.same("with the first byte", x.counter(k, Setups.OUTPUT), 1);
        x.write(4 + k, 0);
        CHECKS.same("when RELOAD is whole", x.counter(k, Setups.OUTPUT), 0);
        for (int mode = 1; mode < MODES; mode++) {
            x = Setups.counting(k, mode, 9);
            CHECKS.same("not so in mode " + mode, x.counter(k, Setups.OUTPUT), 1);
        }
        x = Setups.counting(k, 4, 1);
        x.tick(2);
        Setups.reload(x, k, 9);
        CHECKS.same("mode 4 leaves its output", x.counter(k, Setups.OUTPUT), 0);
    }

    private static void loadedIfItWasEmpty(int k) {
        CHECKS.words("in modes 2 and 3 it is loaded at the next tick if it stood still as EMPTY");
        for (int mode = 2; mode < 4; mode++) {
            TickLines x = Setups.counting(k, mode, 8);
            CHECKS.same("to be loaded, it was EMPTY", x.counter(k, Setups.TO_LOAD), 1);
            x.tick(2);
            Setups.reload(x, k, 20);
            CHECKS.same("to be loaded, it runs", x.counter(k, Setups.TO_LOAD), 0);
            x.tick(1);
            CHECKS.same("COUNT", x.counter(k, Setups.COUNT), mode == 2 ? 6 : 4);
            x.gate(k, false);
            Setups.reload(x, k, 30);
            CHECKS.same("to be loaded, its gate is off", x.counter(k, Setups.TO_LOAD), 0);
            Setups.mode(x, k, mode);
            Setups.reload(x, k, 30);
            CHECKS.same("to be loaded, EMPTY and its gate off", x.counter(k, Setups.TO_LOAD), 1);
        }
    }

    private static void nothingMoreInModesOneAndFive(int k) {
        CHECKS.words("in modes 1 and 5 nothing more");
        for (int mode : new int[] {1, 5}) {
            TickLines x = Setups.counting(k, mode, 9);
            CHECKS.same("to be loaded, it was EMPTY", x.counter(k, Setups.TO_LOAD), 0);
            x.tick(5);
            CHECKS.same("runs", x.counter(k, Setups.RUNS), 0);
            CHECKS.same("COUNT", x.counter(k, Setups.COUNT), 0);
            CHECKS.same("output", x.counter(k, Setups.OUTPUT), 1);
            Setups.trigger(x, k);
            x.tick(2);
            Setups.reload(x, k, 5);
            CHECKS.same("to be loaded, it runs", x.counter(k, Setups.TO_LOAD), 0);
            CHECKS.text("COUNT", Setups.counts(x, k, 3), "7 6 5");
        }
    }

    private static void gateOfAnEmptyOne(int k) {
        CHECKS.words("When the gate of a counter that is not EMPTY comes on");
        for (int mode = 0; mode < MODES; mode++) {
            TickLines x = withAccess(k, 3, mode);
            x.write(4 + k, 9);
            Setups.trigger(x, k);
            CHECKS.same("to be loaded, mode " + mode, x.counter(k, Setups.TO_LOAD), 0);
            x.tick(2);
            CHECKS.same("runs, mode " + mode, x.counter(k, Setups.RUNS), 0);
            x.write(4 + k, 0);
            int due = needsGate(mode) ? 0 : 1;
            CHECKS.same("to be loaded when whole, mode " + mode, x.counter(k, Setups.TO_LOAD), due);
        }
    }

    /** A counter that was loaded, has gone one tick on and has its gate off or on. */
    private static TickLines running(int k, int mode, int reload, boolean gate) {
        TickLines x = Setups.counting(k, mode, reload);
        Setups.trigger(x, k);
        x.tick(2);
        x.gate(k, gate);
        CHECKS.same("runs", x.counter(k, Setups.RUNS), 1);
        CHECKS.same("to be loaded", x.counter(k, Setups.TO_LOAD), 0);
        return x;
    }

    private static void gateComesOn(int k) {
        CHECKS.words("comes on: it is loaded at the next tick, in modes 1, 2, 3, 5");
        for (int mode = 0; mode < MODES; mode++) {
            TickLines x = running(k, mode, 8, false);
            CHECKS.yes("gate", x.gate(k, true));
            boolean loads = mode != 0 && mode != 4;
            CHECKS.same("to be loaded, mode " + mode, x.counter(k, Setups.TO_LOAD), loads ? 1 : 0);
            x.tick(1);
            CHECKS.same("COUNT, mode " + mode, x.counter(k, Setups.COUNT), loads ? 8 : 6);
            CHECKS.same("to be loaded once, mode " + mode, x.counter(k, Setups.TO_LOAD), 0);
        }
    }

    private static void gateWasOn(int k) {
        CHECKS.words("When the gate of a counter that is not EMPTY comes on");
        for (int mode = 0; mode < MODES; mode++) {
            TickLines x = running(k, mode, 8, true);
            String before = Setups.state(x);
            CHECKS.yes("gate", x.gate(k, true));
            CHECKS.text("the state, mode " + mode, Setups.state(x), before);
        }
    }

    private static void gateGoesOff(int k) {
        CHECKS.words("When the gate goes off in modes 2 and 3 the output is on");
        for (int mode = 0; mode < MODES; mode++) {
            TickLines x = running(k, mode, 2, true);
            // By now the output is off, or goes off with one tick more.
            if (mode == 4 || mode == 5) {
                x.tick(1);
            }
            CHECKS.same("output before, mode " + mode, x.counter(k, Setups.OUTPUT), 0);
            x.gate(k, false);
            int due = mode == 2 || mode == 3 ? 1 : 0;
            CHECKS.same("output, mode " + mode, x.counter(k, Setups.OUTPUT), due);
            x.gate(k, true);
            CHECKS.same("output, on again, mode " + mode, x.counter(k, Setups.OUTPUT), due);
        }
    }

    private static void gateWasOff(int k) {
        CHECKS.words("When the gate goes off in modes 2 and 3 the output is on");
        for (int mode = 0; mode < MODES; mode++) {
            TickLines x = running(k, mode, 8, false);
            String before = Setups.state(x);
            CHECKS.yes("gate", x.gate(k, false));
            CHECKS.text("the state, mode " + mode, Setups.state(x), before);
        }
    }

    private static void gateWithoutMode(int k) {
        CHECKS.words("have a GATE (on at first), an OUTPUT (off at first), at first no MODE");
        TickLines x = new TickLines();
        String before = Setups.state(x);
        CHECKS.yes("on when it was on", x.gate(k, true));
        CHECKS.text("the state", Setups.state(x), before);
        CHECKS.yes("off", x.gate(k, false));
        CHECKS.same("gate", x.counter(k, Setups.GATE), 0);
        CHECKS.same("output", x.counter(k, Setups.OUTPUT), 0);
        CHECKS.yes("on", x.gate(k, true));
        CHECKS.text("the state", Setups.state(x), before);
        x.tick(100);
        CHECKS.text("the state behind ticks", Setups.state(x), before);
    }
}
