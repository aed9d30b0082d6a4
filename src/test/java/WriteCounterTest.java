/** Promise 2 for the ports of the counters, 4 to 6, and of control, 7. */
public final class WriteCounterTest {
    private static final Checks CHECKS = new Checks();

    public static void main(String[] args) {
        for (int k = 0; k < 3; k++) {
            modes(k);
            accesses(k);
            newModeClears(k);
            loadsBehindReload(k);
            firstOfTwoInModeZero(k);
            reloadWhileItRuns(k);
        }
        controlWithoutMode();
        latchMany();
        CHECKS.end();
    }

    private static void modes(int k) {
        int[] due = {0, 1, 2, 3, 4, 5, 2, 3};
        for (int m = 0; m < 8; m++) {
            TickLines x = new TickLines();
            x.write(7, k << 6 | 16 | m << 1 | 1);
            CHECKS.same("mode of " + m, x.counter(k, Setups.MODE), due[m]);
            CHECKS.same("output of mode " + m, x.counter(k, Setups.OUTPUT), m == 0 ? 0 : 1);
            CHECKS.same("EMPTY", x.counter(k, Setups.RELOAD), 0);
            CHECKS.same("line 0 follows counter 0", x.about(0, Setups.LINES), k == 0 && m != 0 ? 1 : 0);
            x.tick(3);
            CHECKS.same("an EMPTY one does nothing", x.counter(k, Setups.COUNT), 0);
            CHECKS.same("the others have none", x.counter((k + 1) % 3, Setups.MODE), TickLines.NONE);
        }
    }

    private static void accesses(int k) {
        for (int a = 1; a < 4; a++) {
            for (int value : new int[] {0, 1, 7, 255}) {
                TickLines x = new TickLines();
                x.write(7, k << 6 | a << 4 | 8);
                x.write(4 + k, value);
                int due = a == 1 ? value : 256 * value;
                if (a == 3) {
                    CHECKS.same("one byte of two", x.counter(k, Setups.RELOAD), 0);
                    CHECKS.same("not to be loaded yet", x.counter(k, Setups.TO_LOAD), 0);
                    x.write(4 + k, 2);
                    due = 512 + value;
                }
                CHECKS.same("RELOAD by ACCESS " + a, x.counter(k, Setups.RELOAD), due == 0 ? 65536 : due);
                x.tick(1);
                CHECKS.same("COUNT by ACCESS " + a, x.counter(k, Setups.COUNT), due);
            }
        }
        TickLines x = Setups.counting(k, 4, 0);
        CHECKS.same("RELOAD 65536", x.counter(k, Setups.RELOAD), 65536);
        x.write(4 + k, 9);
        CHECKS.same("RELOAD stays until it is whole", x.counter(k, Setups.RELOAD), 65536);
        x.write(4 + k, 1);
        CHECKS.same("RELOAD is whole", x.counter(k, Setups.RELOAD), 265);
    }

    private static void newModeClears(int k) {
        TickLines x = Setups.counting(k, 2, 300);
        x.tick(1);
        x.write(7, 0xC0 | 2 << k);
        x.tick(1);
        x.write(4 + k, 5);
        Setups.trigger(x, k);
        Setups.mode(x, k, 0);
        int[] due = {299, 0, 1, 0, 0, 0, 0};
        for (int what = 0; what < due.length; what++) {
            CHECKS.same("counter(" + k + ", " + what + ") behind a new mode", x.counter(k, what), due[what]);
        }
        x.tick(2);
        CHECKS.same("nothing is latched", x.read(4 + k), 299 & 255);
        Setups.mode(x, k, 0);
        CHECKS.same("a low byte is read next", x.read(4 + k), 299 & 255);
        CHECKS.same("then a high one", x.read(4 + k), 1);
        Setups.reload(x, k, 0x0203);
        CHECKS.same("a low byte is written next", x.counter(k, Setups.RELOAD), 0x0203);
        x.tick(1);
        CHECKS.same("it is loaded", x.counter(k, Setups.COUNT), 0x0203);
    }

    private static void loadsBehindReload(int k) {
        for (int m = 0; m < 6; m++) {
            int loads = m == 1 || m == 5 ? 0 : 1;
            TickLines x = Setups.counting(k, m, 4);
            CHECKS.same("to be loaded in mode " + m, x.counter(k, Setups.TO_LOAD), loads);
            CHECKS.same("does not run in mode " + m, x.counter(k, Setups.RUNS), 0);
            x.tick(1);
            CHECKS.same("loaded in mode " + m, x.counter(k, Setups.COUNT), 4 * loads);
            CHECKS.same("runs in mode " + m, x.counter(k, Setups.RUNS), loads);
            CHECKS.same("loaded once in mode " + m, x.counter(k, Setups.TO_LOAD), 0);
            Setups.reload(x, k, 6);
            CHECKS.same("loaded again in mode " + m, x.counter(k, Setups.TO_LOAD), m == 0 || m == 4 ? 1 : 0);
        }
    }

    private static void firstOfTwoInModeZero(int k) {
        TickLines x = Setups.counting(k, 0, 3);
        x.write(4 + k, 2);
        CHECKS.same("to be loaded is shown as before", x.counter(k, Setups.TO_LOAD), 1);
        x.tick(5);
        CHECKS.same("but it stands still", x.counter(k, Setups.TO_LOAD), 1);
        CHECKS.same("its COUNT too", x.counter(k, Setups.COUNT), 0);
        x.write(4 + k, 0);
        x.tick(1);
        CHECKS.same("loaded", x.counter(k, Setups.COUNT), 2);
        x.write(4 + k, 9);
        CHECKS.same("runs is shown as before", x.counter(k, Setups.RUNS), 1);
        x.tick(5);
        CHECKS.same("but it stands still", x.counter(k, Setups.COUNT), 2);
        x.write(4 + k, 0);
        x.tick(10);
        CHECKS.same("output", x.counter(k, Setups.OUTPUT), 1);
        x.write(4 + k, 1);
        CHECKS.same("the output stays with the first byte", x.counter(k, Setups.OUTPUT), 1);
        x.write(4 + k, 1);
        CHECKS.same("and is off with the second", x.counter(k, Setups.OUTPUT), 0);

        x = Setups.counting(k, 4, 9);
        x.tick(1);
        x.write(4 + k, 1);
        x.tick(2);
        CHECKS.same("in mode 4 it goes on between the bytes", x.counter(k, Setups.COUNT), 7);

        x = new TickLines();
        x.write(7, k << 6 | 16);
        x.write(4 + k, 2);
        x.tick(2);
        CHECKS.same("one byte alone is no first of two", x.counter(k, Setups.COUNT), 1);
    }

    private static void reloadWhileItRuns(int k) {
        TickLines x = Setups.counting(k, 2, 3);
        x.tick(1);
        Setups.reload(x, k, 5);
        CHECKS.text("mode 2", Setups.counts(x, k, 5), "2 1 5 4 3");
        x = Setups.counting(k, 3, 4);
        x.tick(1);
        Setups.reload(x, k, 7);
        CHECKS.text("mode 3", Setups.counts(x, k, 6), "2 6 4 2 8 6");
        x = Setups.counting(k, 4, 5);
        x.tick(2);
        Setups.reload(x, k, 8);
        CHECKS.text("mode 4", Setups.counts(x, k, 2), "8 7");
        x = Setups.counting(k, 1, 5);
        Setups.trigger(x, k);
        x.tick(2);
        Setups.reload(x, k, 8);
        CHECKS.text("mode 1", Setups.counts(x, k, 2), "3 2");
        Setups.trigger(x, k);
        CHECKS.text("mode 1 again", Setups.counts(x, k, 2), "8 7");
    }

    private static void controlWithoutMode() {
        TickLines x = new TickLines();
        for (int value : new int[] {0x00, 0x40, 0x80, 0xCE, 0xC0, 0xFF}) {
            x.write(7, value);
        }
        for (int k = 0; k < 3; k++) {
            int port = 4 + k;
            CHECKS.badState("still without a mode", () -> x.read(port));
        }
        Setups.mode(x, 1, 2);
        CHECKS.same("nothing was latched before the mode", x.read(5), 0);
        CHECKS.badState("counter 2 has none", () -> x.write(6, 1));
    }

    private static void latchMany() {
        for (int bits = 0; bits < 64; bits++) {
            TickLines x = new TickLines();
            for (int k = 0; k < 3; k++) {
                x.write(7, k << 6 | 16 | 4);
                x.write(4 + k, 200);
            }
            x.tick(10);
            x.write(7, 0xC0 | bits);
            x.tick(50);
            for (int k = 0; k < 3; k++) {
                boolean meant = (bits >> 1 + k & 1) != 0;
                if (meant && (bits & 16) == 0) {
                    CHECKS.same("status by " + bits, x.read(4 + k), 128 + 16 + 4);
                }
                if (meant && (bits & 32) == 0) {
                    CHECKS.same("latched count by " + bits, x.read(4 + k), 191);
                }
                CHECKS.same("count by " + bits, x.read(4 + k), 141);
            }
        }
    }
}
