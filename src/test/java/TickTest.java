/** Promise 6. */
public final class TickTest {
    private static final Checks CHECKS = new Checks();

    public static void main(String[] args) {
        wrongInputs();
        for (int k = 0; k < 3; k++) {
            modeZero(k);
            modeOne(k);
            modeTwo(k);
            modeThree(k);
            modeThreeChangesItsReload(k);
            modesFourAndFive(k);
            largest(k);
        }
        periods();
        cameOn();
        lineZeroFollowsEachTick();
        CHECKS.end();
    }

    private static void wrongInputs() {
        TickLines x = Setups.counting(0, 2, 9);
        for (int n : new int[] {Integer.MIN_VALUE, -1, 101, Integer.MAX_VALUE}) {
            CHECKS.badArgument("tick(" + n + ")", () -> x.tick(n));
        }
        CHECKS.same("tick(0)", x.tick(0), 0);
        CHECKS.same("nothing was done", x.counter(0, Setups.TO_LOAD), 1);
        x.tick(100);
        CHECKS.same("100 ticks", x.counter(0, Setups.COUNT), 9);
    }

    private static void modeZero(int k) {
        CHECKS.text("0 counts", Setups.counts(Setups.counting(k, 0, 3), k, 6), "3 2 1 0 65535 65534");
        CHECKS.text("0 outputs", Setups.outputs(Setups.counting(k, 0, 3), k, 6), "000111");
        CHECKS.text("0 with 1", Setups.outputs(Setups.counting(k, 0, 1), k, 4), "0111");
    }

    private static void modeOne(int k) {
        TickLines x = Setups.counting(k, 1, 3);
        CHECKS.text("1 before the gate", Setups.outputs(x, k, 3), "111");
        Setups.trigger(x, k);
        CHECKS.text("1 outputs", Setups.outputs(x, k, 6), "000111");
        Setups.trigger(x, k);
        CHECKS.text("1 counts", Setups.counts(x, k, 5), "3 2 1 0 65535");
        Setups.trigger(x, k);
        CHECKS.text("1 begins", Setups.outputs(x, k, 2), "00");
        Setups.trigger(x, k);
        CHECKS.text("1 is begun again", Setups.outputs(x, k, 5), "00011");
    }

    private static void modeTwo(int k) {
        CHECKS.text("2 counts", Setups.counts(Setups.counting(k, 2, 3), k, 8), "3 2 1 3 2 1 3 2");
        CHECKS.text("2 outputs", Setups.outputs(Setups.counting(k, 2, 3), k, 8), "11011011");
        CHECKS.text("2 with 2", Setups.outputs(Setups.counting(k, 2, 2), k, 6), "101010");
        CHECKS.text("2 with 1", Setups.outputs(Setups.counting(k, 2, 1), k, 4), "1000");
        CHECKS.text("2 with 1, counts", Setups.counts(Setups.counting(k, 2, 1), k, 3), "1 1 1");
        TickLines x = Setups.counting(k, 2, 3);
        x.tick(3);
        Setups.trigger(x, k);
        CHECKS.text("2 is begun again", Setups.outputs(x, k, 5), "11011");
    }

    private static void modeThree(int k) {
        CHECKS.text("3 counts", Setups.counts(Setups.counting(k, 3, 4), k, 6), "4 2 4 2 4 2");
        CHECKS.text("3 outputs", Setups.outputs(Setups.counting(k, 3, 4), k, 9), "110011001");
        CHECKS.text("3 with 5", Setups.counts(Setups.counting(k, 3, 5), k, 7), "6 4 2 4 2 6 4");
        CHECKS.text("3 with 5, outputs", Setups.outputs(Setups.counting(k, 3, 5), k, 11), "11100111001");
        CHECKS.text("3 with 2", Setups.outputs(Setups.counting(k, 3, 2), k, 5), "10101");
        CHECKS.text("3 with 1", Setups.outputs(Setups.counting(k, 3, 1), k, 5), "11111");
        CHECKS.text("3 with 1, counts", Setups.counts(Setups.counting(k, 3, 1), k, 3), "2 2 2");
        TickLines x = Setups.counting(k, 3, 4);
        x.tick(4);
        Setups.trigger(x, k);
        CHECKS.text("3 is begun again", Setups.outputs(x, k, 5), "11001");
    }

    private static void modeThreeChangesItsReload(int k) {
        TickLines x = Setups.counting(k, 3, 4);
        x.tick(3);
        Setups.reload(x, k, 1);
        CHECKS.text("3 goes to 1 in its off part", Setups.outputs(x, k, 5), "01111");
        Setups.reload(x, k, 4);
        CHECKS.text("3 goes to 4 again", Setups.outputs(x, k, 5), "00110");
    }

    private static void modesFourAndFive(int k) {
        TickLines x = Setups.counting(k, 4, 2);
        CHECKS.text("4 outputs", Setups.outputs(x, k, 6), "110111");
        CHECKS.text("4 counts", Setups.counts(Setups.counting(k, 4, 2), k, 5), "2 1 0 65535 65534");
        x = Setups.counting(k, 5, 2);
        CHECKS.text("5 before the gate", Setups.outputs(x, k, 3), "111");
        Setups.trigger(x, k);
        CHECKS.text("5 outputs", Setups.outputs(x, k, 5), "11011");
        Setups.trigger(x, k);
        CHECKS.text("5 once more", Setups.outputs(x, k, 3), "110");
        Setups.trigger(x, k);
        CHECKS.text("5 stays off with the load", Setups.outputs(x, k, 4), "0101");
    }

    private static void largest(int k) {
        CHECKS.text("0", Setups.counts(Setups.counting(k, 0, 0), k, 3), "0 65535 65534");
        CHECKS.text("0, outputs", Setups.outputs(Setups.counting(k, 0, 0), k, 3), "000");
        CHECKS.text("2", Setups.counts(Setups.counting(k, 2, 0), k, 3), "0 65535 65534");
        CHECKS.text("2, outputs", Setups.outputs(Setups.counting(k, 2, 0), k, 3), "111");
        CHECKS.text("3", Setups.counts(Setups.counting(k, 3, 0), k, 3), "0 65534 65532");
        CHECKS.text("3 with 65535", Setups.counts(Setups.counting(k, 3, 65535), k, 3), "0 65534 65532");
        CHECKS.text("3 with 65534", Setups.counts(Setups.counting(k, 3, 65534), k, 3), "65534 65532 65530");
        CHECKS.text("3, outputs", Setups.outputs(Setups.counting(k, 3, 0), k, 3), "111");
        CHECKS.text("4", Setups.outputs(Setups.counting(k, 4, 0), k, 3), "111");
        TickLines x = Setups.counting(k, 1, 0);
        Setups.trigger(x, k);
        CHECKS.text("1", Setups.outputs(x, k, 3), "000");
    }

    private static void periods() {
        for (int reload = 2; reload <= 33; reload++) {
            TickLines two = Setups.counting(1, 2, reload);
            TickLines three = Setups.counting(1, 3, reload);
            for (int i = 0; i < 100; i++) {
                two.tick(1);
                three.tick(1);
                int at = i % reload;
                CHECKS.same("mode 2, " + reload + " at " + i, two.counter(1, Setups.OUTPUT), at == reload - 1 ? 0 : 1);
                CHECKS.same("mode 3, " + reload + " at " + i, three.counter(1, Setups.OUTPUT), at < (reload + 1) / 2 ? 1 : 0);
            }
        }
    }

    private static void cameOn() {
        CHECKS.same("mode 3 with 2", Setups.counting(0, 3, 2).tick(100), 49);
        CHECKS.same("mode 3 with 1", Setups.counting(0, 3, 1).tick(100), 0);
        CHECKS.same("mode 2 with 1", Setups.counting(0, 2, 1).tick(100), 0);
        CHECKS.same("mode 2 with 10", Setups.counting(0, 2, 10).tick(100), 9);
        CHECKS.same("mode 0 with 99", Setups.counting(0, 0, 99).tick(100), 1);
        CHECKS.same("mode 0 with 100", Setups.counting(0, 0, 100).tick(100), 0);
        CHECKS.same("mode 4 with 5", Setups.counting(0, 4, 5).tick(100), 1);
        CHECKS.same("counter 1 is not counted", Setups.counting(1, 2, 2).tick(100), 0);
        CHECKS.same("counter 2 is not counted", Setups.counting(2, 2, 2).tick(100), 0);
        TickLines x = Setups.counting(0, 2, 2);
        x.tick(2);
        x.gate(0, false);
        CHECKS.same("it came on before the ticks", x.tick(5), 0);
    }

    private static void lineZeroFollowsEachTick() {
        TickLines x = Setups.both();
        Setups.mode(x, 0, 0);
        x.write(4, 2);
        x.write(4, 0);
        x.tick(2);
        CHECKS.same("line 0 is off", x.about(0, Setups.LINES), 0);
        x.tick(1);
        CHECKS.same("line 0 is on", x.about(0, Setups.LINES), 1);
        CHECKS.same("vector", x.acknowledge(), 32);
        x.write(0, 0x20);
        Setups.mode(x, 0, 2);
        Setups.reload(x, 0, 3);
        x.tick(3);
        CHECKS.same("line 0 went off", x.about(0, Setups.LINES), 0);
        Setups.setUp(x, 0, 32, -1);
        x.tick(3);
        CHECKS.same("within one call it came on", x.about(0, Setups.LATCHES), 1);
        CHECKS.same("and went off", x.about(0, Setups.LINES), 0);
        CHECKS.same("a call in vain", x.acknowledge(), 39);
        x.tick(1);
        CHECKS.same("on", x.chosen(0), 0);
    }
}
