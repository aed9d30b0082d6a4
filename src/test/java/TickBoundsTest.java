/** The boundary cases that the terms name for a tick and for COUNT. */
public final class TickBoundsTest {
    private static final Checks CHECKS = new Checks();
    private static final int MODES = 6;

    public static void main(String[] args) {
        for (int k = 0; k < 3; k++) {
            emptyDoesNothing(k);
            loadsWithTheGateOff(k);
            notRunningDoesNothing(k);
            gateOffDoesNothing(k);
            outputOfALoad(k);
            countWraps(k);
            largestIsCountedAsZero(k);
            downToZero(k);
            rateOfOne(k);
            rateOfTwo(k);
            rateOfTheLargest(k);
            squareOfOne(k);
            squareOfTwoAndThree(k);
            squareComesToOne(k);
            strobeOfOne(k);
            strobeOnceEach(k);
        }
        for (int k = 0; k < 3; k++) {
            largestSquare(k, 65534, 32767, 65534);
            largestSquare(k, 65535, 32768, 65534);
            largestSquare(k, 65536, 32768, 0);
        }
        CHECKS.end();
    }

    /** A counter that is to be loaded at the next tick, in whichever mode. */
    private static TickLines loading(int k, int mode, int reload) {
        TickLines x = Setups.counting(k, mode, reload);
        Setups.trigger(x, k);
        CHECKS.same("to be loaded", x.counter(k, Setups.TO_LOAD), 1);
        return x;
    }

    private static void counts(int k, int mode, int reload, String due) {
        String name = "COUNT, mode " + mode + ", RELOAD " + reload;
        CHECKS.text(name, Setups.counts(loading(k, mode, reload), k, due.split(" ").length), due);
    }

    private static void outputs(int k, int mode, int reload, String due) {
        String name = "output, mode " + mode + ", RELOAD " + reload;
        CHECKS.text(name, Setups.outputs(loading(k, mode, reload), k, due.length()), due);
    }

    private static void emptyDoesNothing(int k) {
        CHECKS.words("one that is EMPTY or stands still does nothing");
        for (int mode = 0; mode < MODES; mode++) {
            TickLines x = loading(k, 4, 300);
            x.tick(1);
            Setups.mode(x, k, mode);
            String before = Setups.state(x);
            x.tick(100);
            CHECKS.text("the state, mode " + mode, Setups.state(x), before);
        }
    }

    private static void loadsWithTheGateOff(int k) {
        CHECKS.words("One that is to be loaded: COUNT becomes RELOAD .. it runs from then on");
        for (int mode = 0; mode < MODES; mode++) {
            TickLines x = loading(k, mode, 8);
            x.gate(k, false);
            x.tick(1);
            CHECKS.same("COUNT, mode " + mode, x.counter(k, Setups.COUNT), 8);
            CHECKS.same("runs, mode " + mode, x.counter(k, Setups.RUNS), 1);
            CHECKS.same("to be loaded, mode " + mode, x.counter(k, Setups.TO_LOAD), 0);
        }
    }

    private static void notRunningDoesNothing(int k) {
        CHECKS.words("Else one that does not run does nothing");
        for (int mode : new int[] {1, 5}) {
            TickLines x = Setups.counting(k, mode, 1);
            String before = Setups.state(x);
            x.tick(100);
            CHECKS.text("the state, mode " + mode, Setups.state(x), before);
        }
    }

    private static void gateOffDoesNothing(int k) {
        CHECKS.words("in modes 0, 2, 3, 4 one whose gate is off neither");
        for (int mode = 0; mode < MODES; mode++) {
            TickLines x = loading(k, mode, 8);
            x.tick(1);
            x.gate(k, false);
            String before = Setups.state(x);
            x.tick(3);
            if (mode == 1 || mode == 5) {
                CHECKS.same("COUNT, mode " + mode, x.counter(k, Setups.COUNT), 5);
            } else {
                CHECKS.text("the state, mode " + mode, Setups.state(x), before);
            }
        }
    }

    private static void outputOfALoad(int k) {
        CHECKS.words("in mode 1 the output goes off, in modes 2 and 3 it is on");
        for (int mode = 0; mode < MODES; mode++) {
            TickLines x = loading(k, mode, 8);
            x.tick(1);
            int due = mode < 2 ? 0 : 1;
            CHECKS.same("output, mode " + mode, x.counter(k, Setups.OUTPUT), due);
        }
        TickLines x = loading(k, 5, 1);
        x.tick(2);
        CHECKS.same("output, mode 5, its one tick off", x.counter(k, Setups.OUTPUT), 0);
        Setups.trigger(x, k);
        x.tick(1);
        CHECKS.same("output, mode 5, a load leaves it", x.counter(k, Setups.OUTPUT), 0);
    }

    private static void countWraps(int k) {
        CHECKS.words("COUNT, 0 .. 65535 (it wraps");
        for (int mode : new int[] {0, 1, 4, 5}) {
            counts(k, mode, 1, "1 0 65535 65534");
            counts(k, mode, 2, "2 1 0 65535");
        }
    }

    private static void largestIsCountedAsZero(int k) {
        CHECKS.words("65536 is counted as 0");
        for (int mode = 0; mode < MODES; mode++) {
            counts(k, mode, 65536, mode == 3 ? "0 65534 65532" : "0 65535 65534");
            outputs(k, mode, 65536, mode < 2 ? "000" : "111");
        }
    }

    private static void downToZero(int k) {
        CHECKS.words("mode 0, 1: COUNT is one less; if it is 0 then, the output comes on");
        for (int mode = 0; mode < 2; mode++) {
            outputs(k, mode, 1, "0111");
            outputs(k, mode, 2, "00111");
            outputs(k, mode, 3, "000111");
        }
    }

    private static void rateOfOne(int k) {
        CHECKS.words("if it is 1, COUNT becomes RELOAD and the output comes on; if it is 1 then, the output goes off");
        counts(k, 2, 1, "1 1 1 1");
        outputs(k, 2, 1, "1000");
        TickLines x = loading(k, 2, 3);
        x.tick(2);
        Setups.reload(x, k, 1);
        CHECKS.text("output, RELOAD comes to 1", Setups.outputs(x, k, 4), "0000");
        Setups.reload(x, k, 3);
        CHECKS.text("output, RELOAD comes to 3", Setups.outputs(x, k, 4), "1101");
    }

    private static void rateOfTwo(int k) {
        CHECKS.words("2: COUNT is one less, but if it is 1, COUNT becomes RELOAD and the output comes on");
        counts(k, 2, 2, "2 1 2 1 2");
        outputs(k, 2, 2, "10101");
        counts(k, 2, 3, "3 2 1 3 2 1");
        outputs(k, 2, 3, "110110");
    }

    private static void rateOfTheLargest(int k) {
        CHECKS.words("but if it is 1, COUNT becomes RELOAD .. 65536 is counted as 0");
        TickLines x = loading(k, 2, 2);
        x.tick(2);
        Setups.reload(x, k, 65536);
        CHECKS.text("COUNT", Setups.counts(x, k, 3), "0 65535 65534");
        CHECKS.same("output", x.counter(k, Setups.OUTPUT), 1);
    }

    private static void squareOfOne(int k) {
        CHECKS.words("0 ticks: the output changes again and the other part begins");
        counts(k, 3, 1, "2 2 2 2");
        outputs(k, 3, 1, "1111");
    }

    private static void squareOfTwoAndThree(int k) {
        CHECKS.words("(RELOAD + 1) / 2 for on, RELOAD / 2 for off (rounded down");
        counts(k, 3, 2, "2 2 2 2");
        outputs(k, 3, 2, "1010");
        counts(k, 3, 3, "4 2 2 4 2 2");
        outputs(k, 3, 3, "110110");
    }

    private static void squareComesToOne(int k) {
        CHECKS.words("0 ticks: the output changes again and the other part begins");
        TickLines x = loading(k, 3, 4);
        x.tick(1);
        Setups.reload(x, k, 1);
        CHECKS.text("output, in the on part", Setups.outputs(x, k, 4), "1111");
        CHECKS.same("COUNT", x.counter(k, Setups.COUNT), 2);

        x = loading(k, 3, 4);
        x.tick(3);
        Setups.reload(x, k, 1);
        CHECKS.text("output, in the off part", Setups.outputs(x, k, 4), "0111");
        CHECKS.same("COUNT", x.counter(k, Setups.COUNT), 2);
    }

    /** Loaded, then a whole on part: what the off part begins with. */
    private static void largestSquare(int k, int reload, int onTicks, int offCount) {
        CHECKS.words("COUNT becomes twice the ticks of the part that begins .. 65536 is counted as 0");
        TickLines x = Setups.counting(k, 3, reload);
        x.tick(1);
        CHECKS.same("COUNT of the load", x.counter(k, Setups.COUNT), 2 * onTicks & 65535);
        int left = onTicks - 1;
        for (; left >= 100; left -= 100) {
            x.tick(100);
        }
        x.tick(left);
        CHECKS.same("COUNT in the last tick of the on part", x.counter(k, Setups.COUNT), 2);
        CHECKS.same("output then", x.counter(k, Setups.OUTPUT), 1);
        x.tick(1);
        CHECKS.same("COUNT of the off part", x.counter(k, Setups.COUNT), offCount);
        CHECKS.same("output then", x.counter(k, Setups.OUTPUT), 0);
        x.tick(1);
        CHECKS.same("COUNT one tick later", x.counter(k, Setups.COUNT), offCount - 2 & 65535);
        CHECKS.same("output then", x.counter(k, Setups.OUTPUT), 0);
    }

    private static void strobeOfOne(int k) {
        CHECKS.words("4, 5: the output comes on if it is off; COUNT is one less; if it is 0 then, the output goes off");
        outputs(k, 4, 1, "1011");
        outputs(k, 5, 1, "1011");
        outputs(k, 4, 2, "11011");
        outputs(k, 5, 2, "11011");
    }

    private static void strobeOnceEach(int k) {
        CHECKS.words("the output comes on if it is off");
        for (int mode = 4; mode < MODES; mode++) {
            TickLines x = loading(k, mode, 1);
            x.tick(2);
            CHECKS.same("COUNT, mode " + mode, x.counter(k, Setups.COUNT), 0);
            CHECKS.same("output, mode " + mode, x.counter(k, Setups.OUTPUT), 0);
            x.tick(1);
            CHECKS.same("output, one tick later, mode " + mode, x.counter(k, Setups.OUTPUT), 1);
            CHECKS.same("COUNT, which wraps, mode " + mode, x.counter(k, Setups.COUNT), 65535);
            x.tick(100);
            CHECKS.same("output, mode " + mode, x.counter(k, Setups.OUTPUT), 1);
        }
    }
}
