/** Promise 10. */
public final class CounterTest {
    private static final Checks CHECKS = new Checks();

    public static void main(String[] args) {
        wrongInputs();
        for (int k = 0; k < 3; k++) {
            each(k);
        }
        CHECKS.end();
    }

    private static void wrongInputs() {
        TickLines x = Setups.counting(0, 2, 3);
        for (int k = 0; k < 3; k++) {
            for (int wrong : new int[] {Integer.MIN_VALUE, -1, 7, 8, Integer.MAX_VALUE}) {
                CHECKS.same("counter(" + k + ", " + wrong + ")", x.counter(k, wrong), TickLines.NONE);
            }
        }
        for (int wrong : new int[] {Integer.MIN_VALUE, -1, 3, 4, Integer.MAX_VALUE}) {
            for (int what = 0; what < 7; what++) {
                CHECKS.same("counter(" + wrong + ", " + what + ")", x.counter(wrong, what), TickLines.NONE);
            }
        }
    }

    private static void row(TickLines x, int k, int... due) {
        for (int twice = 0; twice < 2; twice++) {
            for (int what = 0; what < due.length; what++) {
                CHECKS.same("counter(" + k + ", " + what + ")", x.counter(k, what), due[what]);
            }
        }
    }

    private static void each(int k) {
        TickLines x = new TickLines();
        row(x, k, 0, 0, 1, TickLines.NONE, 0, 0, 0);
        Setups.mode(x, k, 3);
        row(x, k, 0, 1, 1, 3, 0, 0, 0);
        Setups.reload(x, k, 0);
        row(x, k, 0, 1, 1, 3, 65536, 0, 1);
        x.tick(1);
        row(x, k, 0, 1, 1, 3, 65536, 1, 0);
        x.tick(1);
        row(x, k, 65534, 1, 1, 3, 65536, 1, 0);
        x.gate(k, false);
        row(x, k, 65534, 1, 0, 3, 65536, 1, 0);
        Setups.reload(x, k, 258);
        row(x, k, 65534, 1, 0, 3, 258, 1, 0);
        x.gate(k, true);
        row(x, k, 65534, 1, 1, 3, 258, 1, 1);
        Setups.mode(x, k, 0);
        row(x, k, 65534, 0, 1, 0, 0, 0, 0);
        for (int other = 1; other < 3; other++) {
            row(x, (k + other) % 3, 0, 0, 1, TickLines.NONE, 0, 0, 0);
        }
    }
}
