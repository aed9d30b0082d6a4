/** Promise 5. */
public final class GateTest {
    private static final Checks CHECKS = new Checks();

    public static void main(String[] args) {
        wrongInputs();
        withoutMode();
        for (int k = 0; k < 3; k++) {
            emptyOnes(k);
            comesOn(k);
            goesOff(k);
            holdsBack(k);
            loadedWhileOff(k);
        }
        lineZeroFollows();
        CHECKS.end();
    }

    private static void wrongInputs() {
        TickLines x = new TickLines();
        for (int k : new int[] {Integer.MIN_VALUE, -1, 3, Integer.MAX_VALUE}) {
            CHECKS.no("gate(" + k + ", true)", x.gate(k, true));
            CHECKS.no("gate(" + k + ", false)", x.gate(k, false));
        }
        for (int k = 0; k < 3; k++) {
            CHECKS.same("gates as before", x.counter(k, Setups.GATE), 1);
        }
    }

    private static void withoutMode() {
        for (int k = 0; k < 3; k++) {
            TickLines x = new TickLines();
            CHECKS.yes("off", x.gate(k, false));
            CHECKS.same("off", x.counter(k, Setups.GATE), 0);
            CHECKS.same("another gate", x.counter((k + 1) % 3, Setups.GATE), 1);
            CHECKS.yes("off again", x.gate(k, false));
            CHECKS.yes("on", x.gate(k, true));
            CHECKS.same("on", x.counter(k, Setups.GATE), 1);
            CHECKS.same("output", x.counter(k, Setups.OUTPUT), 0);
            CHECKS.same("nothing to load", x.counter(k, Setups.TO_LOAD), 0);
        }
    }

    private static void emptyOnes(int k) {
        for (int m = 0; m < 6; m++) {
            TickLines x = new TickLines();
            Setups.mode(x, k, m);
            Setups.trigger(x, k);
            CHECKS.same("EMPTY in mode " + m, x.counter(k, Setups.TO_LOAD), 0);
            x.write(4 + k, 5);
            Setups.trigger(x, k);
            CHECKS.same("EMPTY with one byte in mode " + m, x.counter(k, Setups.TO_LOAD), 0);
        }
    }

    private static void comesOn(int k) {
        for (int m = 0; m < 6; m++) {
            TickLines x = Setups.counting(k, m, 6);
            x.tick(2);
            x.gate(k, true);
            CHECKS.same("on before, mode " + m, x.counter(k, Setups.TO_LOAD), 0);
            x.gate(k, false);
            CHECKS.same("off, mode " + m, x.counter(k, Setups.TO_LOAD), 0);
            x.gate(k, true);
            CHECKS.same("on, mode " + m, x.counter(k, Setups.TO_LOAD), m == 0 || m == 4 ? 0 : 1);
            x.gate(k, false);
            CHECKS.same("off again, mode " + m, x.counter(k, Setups.TO_LOAD), m == 0 || m == 4 ? 0 : 1);
        }
        TickLines x = Setups.counting(k, 5, 6);
        x.write(4 + k, 9);
        Setups.trigger(x, k);
        x.tick(1);
        CHECKS.same("loaded between the bytes", x.counter(k, Setups.COUNT), 6);
    }

    private static void goesOff(int k) {
        for (int m = 0; m < 6; m++) {
            TickLines x = Setups.counting(k, m, 2);
            if (m == 1 || m == 5) {
                Setups.trigger(x, k);
            }
            // The output is off behind the load and a tick or two, in every mode.
            x.tick(m == 0 || m == 1 ? 1 : m == 4 || m == 5 ? 3 : 2);
            CHECKS.same("output before, mode " + m, x.counter(k, Setups.OUTPUT), 0);
            x.gate(k, true);
            CHECKS.same("gate on as before, mode " + m, x.counter(k, Setups.OUTPUT), 0);
            int count = x.counter(k, Setups.COUNT);
            x.gate(k, false);
            CHECKS.same("output behind, mode " + m, x.counter(k, Setups.OUTPUT), m == 2 || m == 3 ? 1 : 0);
            CHECKS.same("COUNT as before, mode " + m, x.counter(k, Setups.COUNT), count);
        }
    }

    private static void holdsBack(int k) {
        for (int m = 0; m < 6; m++) {
            TickLines x = Setups.counting(k, m, 40);
            Setups.trigger(x, k);
            x.tick(1);
            x.gate(k, false);
            x.tick(4);
            CHECKS.same("COUNT with the gate off, mode " + m, x.counter(k, Setups.COUNT), m == 1 || m == 5 ? 36 : 40);
            CHECKS.same("it runs all the same, mode " + m, x.counter(k, Setups.RUNS), 1);
            x.gate(k, true);
            x.tick(1);
            int due = m == 0 || m == 4 ? 39 : 40;
            CHECKS.same("COUNT with the gate on again, mode " + m, x.counter(k, Setups.COUNT), due);
        }
        TickLines x = Setups.counting(k, 4, 1);
        x.tick(2);
        x.gate(k, false);
        x.tick(3);
        CHECKS.same("mode 4 stays off while the gate is", x.counter(k, Setups.OUTPUT), 0);
        x.gate(k, true);
        x.tick(1);
        CHECKS.same("and comes on behind it", x.counter(k, Setups.OUTPUT), 1);
    }

    private static void loadedWhileOff(int k) {
        for (int m = 0; m < 6; m++) {
            TickLines x = new TickLines();
            x.gate(k, false);
            Setups.mode(x, k, m);
            Setups.reload(x, k, 8);
            x.tick(3);
            CHECKS.same("COUNT, mode " + m, x.counter(k, Setups.COUNT), m == 1 || m == 5 ? 0 : 8);
            CHECKS.same("runs, mode " + m, x.counter(k, Setups.RUNS), m == 1 || m == 5 ? 0 : 1);
        }
    }

    private static void lineZeroFollows() {
        TickLines x = Setups.counting(0, 2, 2);
        x.tick(2);
        Setups.setUp(x, 0, 32, -1);
        CHECKS.same("line 0 is off", x.about(0, Setups.LINES), 0);
        x.gate(0, false);
        CHECKS.same("line 0 comes on", x.about(0, Setups.LINES), 1);
        CHECKS.same("and calls", x.chosen(0), 0);
    }
}
