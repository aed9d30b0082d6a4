/** Promise 3. */
public final class ReadTest {
    private static final Checks CHECKS = new Checks();

    public static void main(String[] args) {
        wrongInputs();
        for (int c = 0; c < 2; c++) {
            polls(c);
            pollInAutoMode(c);
            sides(c);
        }
        pollOfLevelTwo();
        for (int k = 0; k < 3; k++) {
            bytesOfCount(k);
            latchedCount(k);
            latchedStays(k);
            statusFirst(k);
            status(k);
            latchBetweenTheBytes(k);
        }
        CHECKS.end();
    }

    private static void wrongInputs() {
        TickLines x = new TickLines();
        for (int port : new int[] {-1, 7, 8, Integer.MIN_VALUE, Integer.MAX_VALUE}) {
            CHECKS.badArgument("read(" + port + ")", () -> x.read(port));
        }
        for (int port = 4; port < 7; port++) {
            int p = port;
            CHECKS.badState("read(" + p + ") without a mode", () -> x.read(p));
        }
    }

    private static void polls(int c) {
        TickLines x = Setups.both();
        Setups.on(x, c, 4, 6);
        x.write(2 * c, 12);
        CHECKS.same("MASK is read with a poll", x.read(2 * c + 1), 0);
        CHECKS.same("poll", x.read(2 * c), 128 + 4);
        CHECKS.same("its latch is off", x.about(c, Setups.LATCHES) & 0x70, 0x40);
        CHECKS.same("it is in service", x.about(c, Setups.SERVICE), 0x10);
        CHECKS.same("the poll is no more", x.read(2 * c), 0x40);
        x.write(2 * c, 12);
        CHECKS.same("poll in vain", x.read(2 * c), 0);
        CHECKS.same("that one is no more either", x.read(2 * c), 0x40);
        x.write(2 * c, 12);
        x.write(2 * c, 12);
        x.write(2 * c, 0x0B);
        x.write(2 * c, 0x20);
        CHECKS.same("a poll stays until it is read", x.read(2 * c), 128 + 6);
        CHECKS.same("two polls are one", x.read(2 * c), 0x40);
    }

    private static void pollInAutoMode(int c) {
        TickLines x = new TickLines();
        Setups.setUp(x, c, 8, 2);
        x.write(2 * c, 0x80);
        Setups.on(x, c, 5);
        x.write(2 * c, 12);
        CHECKS.same("poll", x.read(2 * c), 128 + 5);
        CHECKS.same("no service in AUTO mode", x.about(c, Setups.SERVICE), 0);
        CHECKS.same("it turns", x.about(c, Setups.LOWEST), 5);
    }

    private static void pollOfLevelTwo() {
        TickLines x = Setups.both();
        Setups.on(x, 1, 6);
        x.write(0, 12);
        CHECKS.same("poll of controller 0", x.read(0), 128 + 2);
        CHECKS.same("controller 1 is not served", x.about(1, Setups.SERVICE), 0);
        CHECKS.same("it still calls", x.chosen(1), 6);
        x.write(2, 12);
        CHECKS.same("poll of controller 1", x.read(2), 128 + 6);
        CHECKS.same("line 2 is off behind it", x.about(0, Setups.LINES), 0);
    }

    private static void sides(int c) {
        TickLines x = Setups.both();
        Setups.on(x, c, 3, 7);
        x.write(2 * c + 1, 0x88);
        CHECKS.same("requests, though masked", x.read(2 * c), 0x88);
        CHECKS.same("MASK", x.read(2 * c + 1), 0x88);
        x.line(c, 3, false);
        CHECKS.same("requests", x.read(2 * c), 0x80);
        x.write(2 * c, 0x18);
        CHECKS.same("in LEVEL mode lines are requests, ready or not", x.read(2 * c), 0x80);
        CHECKS.same("MASK behind setting up", x.read(2 * c + 1), 0);
    }

    private static TickLines counted(int k, int access) {
        TickLines x = new TickLines();
        x.write(7, k << 6 | 3 << 4 | 4);
        Setups.reload(x, k, 0x1234);
        x.tick(1);
        // The COUNT stays over a new mode, and so it can be read by each ACCESS.
        x.write(7, k << 6 | access << 4 | 4);
        return x;
    }

    private static void bytesOfCount(int k) {
        TickLines x = counted(k, 1);
        CHECKS.same("low", x.read(4 + k), 0x34);
        CHECKS.same("low again", x.read(4 + k), 0x34);
        x = counted(k, 2);
        CHECKS.same("high", x.read(4 + k), 0x12);
        CHECKS.same("high again", x.read(4 + k), 0x12);
        x = counted(k, 3);
        CHECKS.same("low of two", x.read(4 + k), 0x34);
        CHECKS.same("high of two", x.read(4 + k), 0x12);
        CHECKS.same("low of the next two", x.read(4 + k), 0x34);
        x = Setups.counting(k, 2, 0x0201);
        x.tick(1);
        CHECKS.same("low as it is", x.read(4 + k), 1);
        x.tick(2);
        x.write(4 + k, 9);
        CHECKS.same("high as it is then, and writing has its own order", x.read(4 + k), 1);
    }

    private static void latchedCount(int k) {
        for (int by : new int[] {k << 6, k << 6 | 15, 0xD0 | 2 << k}) {
            for (int access = 1; access < 4; access++) {
                TickLines x = counted(k, access);
                x.write(7, by);
                Setups.reload(x, k, access == 3 ? 0x5678 : 0x5656);
                x.tick(1);
                if (access != 2) {
                    CHECKS.same("latched low", x.read(4 + k), 0x34);
                }
                if (access != 1) {
                    CHECKS.same("latched high", x.read(4 + k), 0x12);
                }
                int due = access == 1 ? 0x56 : access == 2 ? 0x56 : 0x78;
                CHECKS.same("latched no more, ACCESS " + access, x.read(4 + k), due);
            }
        }
    }

    private static void latchedStays(int k) {
        TickLines x = Setups.counting(k, 2, 0x1000);
        x.tick(1);
        x.write(7, k << 6);
        x.tick(1);
        x.write(7, k << 6);
        x.write(7, 0xD0 | 2 << k);
        CHECKS.same("what is latched stays so, low", x.read(4 + k), 0);
        x.write(7, 0xD0 | 2 << k);
        CHECKS.same("what is latched stays so, high", x.read(4 + k), 0x10);
        CHECKS.same("COUNT as it is, low", x.read(4 + k), 0xFF);
        CHECKS.same("COUNT as it is, high", x.read(4 + k), 0x0F);

        x = Setups.counting(k, 2, 4);
        x.write(7, 0xE0 | 2 << k);
        x.tick(1);
        CHECKS.same("a latched status stays so", Setups.status(x, k), 128 + 64 + 48 + 4);
        CHECKS.same("the next one is new", Setups.status(x, k), 128 + 48 + 4);
    }

    private static void statusFirst(int k) {
        TickLines x = counted(k, 3);
        CHECKS.same("low", x.read(4 + k), 0x34);
        x.write(7, 0xC0 | 2 << k);
        CHECKS.same("status", x.read(4 + k), 128 + 64 + 48 + 4);
        CHECKS.same("the high byte is next as before", x.read(4 + k), 0x12);
        CHECKS.same("and then the low one", x.read(4 + k), 0x34);
    }

    private static void status(int k) {
        for (int m = 0; m < 8; m++) {
            for (int a = 1; a < 4; a++) {
                TickLines x = new TickLines();
                x.write(7, k << 6 | a << 4 | m << 1);
                int due = (m == 0 ? 0 : 128) + 64 + 16 * a + 2 * (m > 5 ? m - 4 : m);
                CHECKS.same("status of mode " + m + " ACCESS " + a, Setups.status(x, k), due);
            }
        }
        pendingByLoad(k);
        pendingWhileItRuns(k);
    }

    private static void pendingByLoad(int k) {
        for (int m = 0; m < 6; m++) {
            TickLines x = Setups.counting(k, m, 5);
            CHECKS.yes("64 before the load, mode " + m, Setups.pending(x, k));
            x.tick(1);
            if (m == 1 || m == 5) {
                CHECKS.yes("64 before the gate comes on, mode " + m, Setups.pending(x, k));
                Setups.trigger(x, k);
                CHECKS.yes("64 before the tick, mode " + m, Setups.pending(x, k));
                x.tick(1);
            }
            CHECKS.no("64 behind the load, mode " + m, Setups.pending(x, k));
            x.tick(1);
            CHECKS.no("64 behind the next tick, mode " + m, Setups.pending(x, k));
            x.write(4 + k, 4);
            CHECKS.no("64 with one byte of two, mode " + m, Setups.pending(x, k));
            x.write(4 + k, 0);
            CHECKS.yes("64 with both, mode " + m, Setups.pending(x, k));
            Setups.mode(x, k, m);
            CHECKS.yes("64 with the mode, mode " + m, Setups.pending(x, k));
        }
    }

    private static void pendingWhileItRuns(int k) {
        TickLines x = Setups.counting(k, 2, 3);
        x.tick(1);
        Setups.reload(x, k, 9);
        x.tick(2);
        CHECKS.yes("mode 2 at its 1", Setups.pending(x, k));
        x.tick(1);
        CHECKS.no("mode 2 behind it", Setups.pending(x, k));

        x = Setups.counting(k, 3, 4);
        x.tick(1);
        Setups.reload(x, k, 8);
        x.tick(1);
        CHECKS.yes("mode 3 before the next part", Setups.pending(x, k));
        x.tick(1);
        CHECKS.no("mode 3 in the next part", Setups.pending(x, k));

        x = Setups.counting(k, 1, 9);
        Setups.trigger(x, k);
        x.tick(1);
        Setups.reload(x, k, 2);
        x.tick(20);
        CHECKS.yes("mode 1 without a gate", Setups.pending(x, k));
    }

    private static void latchBetweenTheBytes(int k) {
        TickLines x = counted(k, 3);
        CHECKS.same("low", x.read(4 + k), 0x34);
        x.write(7, k << 6);
        CHECKS.same("the high byte of what was latched then", x.read(4 + k), 0x12);
        Setups.reload(x, k, 0x0506);
        x.tick(1);
        CHECKS.same("which was its last", x.read(4 + k), 6);
    }
}
