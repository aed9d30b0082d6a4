/** Promise 1. */
public final class NewObjectTest {
    private static final Checks CHECKS = new Checks();

    public static void main(String[] args) {
        controllers();
        counters();
        objectsShareNothing();
        CHECKS.end();
    }

    private static void controllers() {
        TickLines x = new TickLines();
        for (int c = 0; c < 2; c++) {
            for (int what = 0; what < 8; what++) {
                CHECKS.same("new about(" + c + ", " + what + ")", x.about(c, what), what == Setups.LOWEST ? 7 : 0);
            }
            CHECKS.same("new chosen", x.chosen(c), TickLines.NONE);
            CHECKS.same("new side 0", x.read(2 * c), 0);
            CHECKS.same("new side 1", x.read(2 * c + 1), 0);
        }
        CHECKS.badState("new acknowledge()", x::acknowledge);
    }

    private static void counters() {
        TickLines x = new TickLines();
        int[] due = {0, 0, 1, TickLines.NONE, 0, 0, 0};
        for (int c = 0; c < 3; c++) {
            for (int what = 0; what < due.length; what++) {
                CHECKS.same("new counter(" + c + ", " + what + ")", x.counter(c, what), due[what]);
            }
        }
        CHECKS.same("ticks without a mode", x.tick(100), 0);
        CHECKS.same("count without a mode", x.counter(0, Setups.COUNT), 0);
    }

    private static void objectsShareNothing() {
        TickLines one = Setups.both();
        Setups.mode(one, 0, 2);
        TickLines other = new TickLines();
        CHECKS.same("ready of another object", other.about(0, Setups.READY), 0);
        CHECKS.same("mode of another object", other.counter(0, Setups.MODE), TickLines.NONE);
    }
}
