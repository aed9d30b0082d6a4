/** Promise 9. */
public final class AboutTest {
    private static final Checks CHECKS = new Checks();

    public static void main(String[] args) {
        wrongInputs();
        for (int c = 0; c < 2; c++) {
            each(c);
        }
        CHECKS.end();
    }

    private static void wrongInputs() {
        TickLines x = Setups.both();
        for (int wrong : new int[] {Integer.MIN_VALUE, -1, 8, 9, Integer.MAX_VALUE}) {
            CHECKS.same("about(0, " + wrong + ")", x.about(0, wrong), TickLines.NONE);
            CHECKS.same("about(1, " + wrong + ")", x.about(1, wrong), TickLines.NONE);
        }
        for (int wrong : new int[] {Integer.MIN_VALUE, -1, 2, Integer.MAX_VALUE}) {
            for (int what = 0; what < 8; what++) {
                CHECKS.same("about(" + wrong + ", " + what + ")", x.about(wrong, what), TickLines.NONE);
            }
        }
    }

    private static void each(int c) {
        TickLines x = Setups.both();
        Setups.on(x, c, 1, 4, 5, 6);
        x.line(c, 6, false);
        x.write(2 * c, 12);
        x.read(2 * c);
        x.write(2 * c + 1, 0xA2);
        x.write(2 * c, 0xC3);
        int[] due = {0x30, 0x02, 0xA2, 3, 32 + 8 * c, 0x32, 0x70, 1};
        for (int twice = 0; twice < 2; twice++) {
            for (int what = 0; what < due.length; what++) {
                CHECKS.same("about(" + c + ", " + what + ")", x.about(c, what), due[what]);
            }
        }
    }
}
