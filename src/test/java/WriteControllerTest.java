/** Promise 2 for the ports of the controllers, 0 to 3. */
public final class WriteControllerTest {
    private static final Checks CHECKS = new Checks();

    public static void main(String[] args) {
        wrongInputs();
        for (int c = 0; c < 2; c++) {
            lengthsOfSettingUp(c);
            settingUpClears(c);
            settingUpClearsAutoAndTurns(c);
            settingUpIsBegunAgain(c);
            notReadyTakesNoCommand(c);
            mask(c);
            endsOfService(c);
            turning(c);
            special(c);
            whatIsRead(c);
        }
        settingUpClearsNested();
        CHECKS.end();
    }

    private static void wrongInputs() {
        TickLines x = new TickLines();
        for (int port : new int[] {-1, 8, 9, Integer.MIN_VALUE, Integer.MAX_VALUE}) {
            CHECKS.badArgument("write(" + port + ", 0)", () -> x.write(port, 0));
        }
        for (int port = 0; port < 8; port++) {
            for (int value : new int[] {-1, 256, Integer.MIN_VALUE, Integer.MAX_VALUE}) {
                int p = port;
                CHECKS.badArgument("write(" + p + ", " + value + ")", () -> x.write(p, value));
            }
        }
        for (int port = 4; port < 7; port++) {
            int p = port;
            CHECKS.badState("write(" + p + ", 0) without a mode", () -> x.write(p, 0));
            CHECKS.badState("write(" + p + ", 255) without a mode", () -> x.write(p, 255));
        }
    }

    private static void lengthsOfSettingUp(int c) {
        // With SINGLE in bit 1 and FOURTH in bit 0, the number of bytes to side 1.
        int[] lengths = {2, 3, 1, 2};
        for (int bits = 0; bits < 4; bits++) {
            TickLines x = new TickLines();
            x.write(2 * c + 1, 0xFF);
            CHECKS.same("BASE before setting up", x.about(c, Setups.BASE), 0);
            CHECKS.same("MASK before setting up", x.about(c, Setups.MASK), 0);
            x.write(2 * c, 16 | bits);
            for (int i = 1; i <= lengths[bits]; i++) {
                CHECKS.same("ready before byte " + i + " of " + bits, x.about(c, Setups.READY), 0);
                x.write(2 * c + 1, i == 1 ? 0x4F : 0);
                CHECKS.same("BASE", x.about(c, Setups.BASE), 0x48);
            }
            CHECKS.same("ready behind the last byte of " + bits, x.about(c, Setups.READY), 1);
            CHECKS.same("MASK behind setting up", x.about(c, Setups.MASK), 0);
            CHECKS.same("the other one", x.about(1 - c, Setups.READY), 0);
        }
    }

    private static void settingUpClears(int c) {
        TickLines x = Setups.both();
        int side0 = 2 * c;
        Setups.on(x, c, 3, 5);
        x.write(side0, 12);
        CHECKS.same("polled", x.read(side0), 128 + 3);
        x.write(side0, 0xC4);
        x.write(side0, 0x80);
        x.write(side0, 0x0B);
        x.write(side0, 0x68);
        x.write(side0 + 1, 0x21);
        x.write(side0, 0x0C);
        x.write(side0, 16);
        int[] due = {0, 0, 0, 7, 32 + 8 * c, 0x28, 0, 0};
        for (int what = 0; what < due.length; what++) {
            CHECKS.same("about(" + c + ", " + what + ") while setting up", x.about(c, what), due[what]);
        }
        CHECKS.same("chosen while setting up", x.chosen(c), TickLines.NONE);
        x.line(c, 6, true);
        CHECKS.same("the poll is gone, requests are read", x.read(side0), 0x40);
        x.write(side0 + 1, 64);
        x.write(side0 + 1, 0);
        CHECKS.same("lines that were on before are no requests", x.chosen(c), 6);
        x.line(c, 5, false);
        x.line(c, 5, true);
        CHECKS.same("a line that came on again is one", x.chosen(c), 5);
        x.write(side0, 12);
        x.read(side0);
        x.write(side0 + 1, 0x20);
        CHECKS.same("SPECIAL is off, so 5 holds", x.chosen(c), TickLines.NONE);
    }

    private static void settingUpClearsAutoAndTurns(int c) {
        TickLines x = new TickLines();
        Setups.setUp(x, c, 8, 2);
        x.write(2 * c, 0x80);
        Setups.setUp(x, c, 8, 2);
        Setups.on(x, c, 3);
        x.write(2 * c, 12);
        CHECKS.same("poll", x.read(2 * c), 128 + 3);
        CHECKS.same("AUTO by the fourth byte", x.about(c, Setups.SERVICE), 0);
        CHECKS.same("it turns no more", x.about(c, Setups.LOWEST), 7);
        Setups.setUp(x, c, 8, -1);
        Setups.on(x, c, 5);
        x.write(2 * c, 12);
        CHECKS.same("poll", x.read(2 * c), 128 + 5);
        CHECKS.same("not AUTO without a fourth byte", x.about(c, Setups.SERVICE), 32);
    }

    private static void settingUpClearsNested() {
        TickLines x = Setups.both();
        Setups.setUp(x, 0, 32, 0x10);
        Setups.setUp(x, 0, 32, -1);
        Setups.on(x, 1, 5);
        CHECKS.same("vector", x.acknowledge(), 45);
        Setups.on(x, 1, 3);
        CHECKS.same("not NESTED without a fourth byte", x.chosen(0), TickLines.NONE);
    }

    private static void settingUpIsBegunAgain(int c) {
        TickLines x = new TickLines();
        x.write(2 * c, 17);
        x.write(2 * c + 1, 64);
        x.write(2 * c, 18);
        x.write(2 * c + 1, 80);
        CHECKS.same("the second beginning counts", x.about(c, Setups.READY), 1);
        CHECKS.same("its BASE", x.about(c, Setups.BASE), 80);
        x.write(2 * c, 16);
        CHECKS.same("BASE stays until it is written", x.about(c, Setups.BASE), 80);
    }

    private static void notReadyTakesNoCommand(int c) {
        TickLines x = new TickLines();
        x.write(2 * c, 0xC3);
        CHECKS.same("LOWEST before setting up", x.about(c, Setups.LOWEST), 7);
        x.write(2 * c, 16);
        x.write(2 * c, 0xC3);
        x.write(2 * c, 0x0C);
        x.write(2 * c, 0x0B);
        x.write(2 * c + 1, 8);
        x.write(2 * c, 0xE3);
        x.write(2 * c + 1, 0);
        CHECKS.same("LOWEST while setting up", x.about(c, Setups.LOWEST), 7);
        x.line(c, 6, true);
        CHECKS.same("no poll, requests are read", x.read(2 * c), 64);
    }

    private static void mask(int c) {
        TickLines x = Setups.both();
        Setups.on(x, c, 1, 3);
        for (int value : new int[] {2, 0xFF, 8, 0}) {
            x.write(2 * c + 1, value);
            CHECKS.same("MASK", x.about(c, Setups.MASK), value);
            CHECKS.same("chosen behind MASK " + value, x.chosen(c), value == 2 ? 3 : value == 0xFF ? -1 : 1);
        }
        CHECKS.same("requests are not masked", x.about(c, Setups.REQUESTS), 10);
    }

    /** Levels 6, 5 and 3 in service, one within the other. */
    private static TickLines inService(int c) {
        TickLines x = Setups.both();
        for (int level : new int[] {6, 5, 3}) {
            x.line(c, level, true);
            x.write(2 * c, 12);
            CHECKS.same("poll", x.read(2 * c), 128 + level);
        }
        CHECKS.same("all in service", x.about(c, Setups.SERVICE), 0x68);
        return x;
    }

    private static void endsOfService(int c) {
        TickLines x = inService(c);
        x.write(2 * c, 0x47);
        x.write(2 * c, 0x40);
        CHECKS.same("2 means nothing", x.about(c, Setups.SERVICE), 0x68);
        x.write(2 * c, 0x27);
        CHECKS.same("1 ends the first that holds", x.about(c, Setups.SERVICE), 0x60);
        x.write(2 * c, 0x66);
        CHECKS.same("3 ends the one that is told", x.about(c, Setups.SERVICE), 0x20);
        x.write(2 * c, 0x60);
        CHECKS.same("3 for one not in service", x.about(c, Setups.SERVICE), 0x20);
        CHECKS.same("LOWEST", x.about(c, Setups.LOWEST), 7);
        x.write(2 * c, 0x20);
        x.write(2 * c, 0x20);
        CHECKS.same("1 without any", x.about(c, Setups.SERVICE), 0);

        x = inService(c);
        x.write(2 * c, 0xC3);
        x.write(2 * c, 0x20);
        CHECKS.same("1 goes by the priority that was turned", x.about(c, Setups.SERVICE), 0x48);
        x.write(2 * c, 0x20);
        x.write(2 * c, 0x20);
        CHECKS.same("1 ends LOWEST as well", x.about(c, Setups.SERVICE), 0);
    }

    private static void turning(int c) {
        TickLines x = inService(c);
        x.write(2 * c, 0xA6);
        CHECKS.same("5 ends the first that holds", x.about(c, Setups.SERVICE), 0x60);
        CHECKS.same("5 sets LOWEST to it", x.about(c, Setups.LOWEST), 3);
        x.write(2 * c, 0xE6);
        CHECKS.same("7 ends the one that is told", x.about(c, Setups.SERVICE), 0x20);
        CHECKS.same("7 sets LOWEST to it", x.about(c, Setups.LOWEST), 6);
        x.write(2 * c, 0xE1);
        CHECKS.same("7 for one not in service", x.about(c, Setups.SERVICE), 0x20);
        CHECKS.same("7 sets LOWEST all the same", x.about(c, Setups.LOWEST), 1);
        x.write(2 * c, 0xC4);
        CHECKS.same("6 sets LOWEST", x.about(c, Setups.LOWEST), 4);
        CHECKS.same("6 ends nothing", x.about(c, Setups.SERVICE), 0x20);
        x.write(2 * c, 0x80);
        x.write(2 * c, 0x00);
        CHECKS.same("4 and 0 leave LOWEST", x.about(c, Setups.LOWEST), 4);
        x.write(2 * c, 0xA0);
        CHECKS.same("5 again", x.about(c, Setups.LOWEST), 5);
        x.write(2 * c, 0xC2);
        x.write(2 * c, 0xA0);
        CHECKS.same("5 without any leaves LOWEST", x.about(c, Setups.LOWEST), 2);
    }

    private static void special(int c) {
        TickLines x = inService(c);
        x.write(2 * c + 1, 0x08);
        x.write(2 * c, 0x28);
        Setups.on(x, c, 4);
        CHECKS.same("bit 5 without bit 6 is no SPECIAL", x.chosen(c), TickLines.NONE);
        x.write(2 * c, 0x68);
        CHECKS.same("in SPECIAL mode a masked level does not hold", x.chosen(c), 4);
        x.write(2 * c, 0x08);
        CHECKS.same("SPECIAL stays without bit 6", x.chosen(c), 4);
        x.write(2 * c, 0x20);
        CHECKS.same("1 passes over a masked level", x.about(c, Setups.SERVICE), 0x48);
        x.write(2 * c, 0x63);
        CHECKS.same("3 does not", x.about(c, Setups.SERVICE), 0x40);
        x.write(2 * c + 1, 0x40);
        x.write(2 * c, 0xA0);
        CHECKS.same("5 passes over it too", x.about(c, Setups.SERVICE), 0x40);
        CHECKS.same("LOWEST", x.about(c, Setups.LOWEST), 7);
        x.write(2 * c, 0x48);
        x.write(2 * c, 0xA0);
        CHECKS.same("SPECIAL is off", x.about(c, Setups.SERVICE), 0);
        CHECKS.same("LOWEST", x.about(c, Setups.LOWEST), 6);
    }

    private static void whatIsRead(int c) {
        TickLines x = inService(c);
        x.line(c, 7, true);
        CHECKS.same("requests at first", x.read(2 * c), 0x80);
        x.write(2 * c, 0x0B);
        CHECKS.same("service", x.read(2 * c), 0x68);
        CHECKS.same("service again", x.read(2 * c), 0x68);
        x.write(2 * c, 0x08);
        CHECKS.same("without bit 1 it stays", x.read(2 * c), 0x68);
        x.write(2 * c, 0x0E);
        CHECKS.same("bit 2 goes before bit 1", x.read(2 * c), 0);
        CHECKS.same("behind the poll", x.read(2 * c), 0x68);
        x.write(2 * c, 0x0A);
        CHECKS.same("requests", x.read(2 * c), 0x80);
        x.write(2 * c, 0x0F);
        CHECKS.same("the poll", x.read(2 * c), 0);
        CHECKS.same("requests behind it", x.read(2 * c), 0x80);
    }
}
