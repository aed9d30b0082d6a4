import java.util.function.Consumer;

/** The boundary cases that the promises name: calls that are refused or answered NONE or false. */
public final class CallBoundsTest {
    private static final Checks CHECKS = new Checks();
    private static final int[] FAR = {Integer.MIN_VALUE, Integer.MIN_VALUE + 1, -256, -1,
        256, 65536, Integer.MAX_VALUE - 1, Integer.MAX_VALUE};

    public static void main(String[] args) {
        atFirst();
        lastCallOfAnObject();
        writeNoSuchPort();
        writeNoByte();
        writeWithoutMode();
        writeBothHold();
        writeRefusedInSettingUp();
        writeRefusedBetweenBytes();
        writeSmallestAndLargest();
        readNoSuchPort();
        readControl();
        readWithoutMode();
        readRefusedChangesNothing();
        lineNoSuchLine();
        lineOfTheObjectItself();
        lineFirstAndLast();
        gateNoSuchCounter();
        tickTooFewOrMany();
        tickNone();
        tickMost();
        tickCameOn();
        tickCameOnAndOff();
        tickCameOnBetween();
        acknowledgeNotReady();
        chosenNone();
        aboutNone();
        aboutEmptyAndFull();
        counterNone();
        counterModeAndReload();
        CHECKS.end();
    }

    /** An object on which all that a refused call could spoil stands open. */
    private static TickLines busy() {
        TickLines x = Setups.both();
        Setups.on(x, 0, 4);
        Setups.on(x, 1, 5);
        x.write(0, 12);
        x.write(2, 12);
        for (int k = 0; k < 2; k++) {
            Setups.mode(x, k, 2);
            Setups.reload(x, k, 0x0203);
        }
        x.tick(1);
        x.write(7, 0xC6);
        x.tick(1);
        x.write(4, 7);
        x.write(5, 7);
        return x;
    }

    /** That a busy object goes on as if there had been nothing between. */
    private static void goesOn(TickLines x) {
        for (int k = 0; k < 2; k++) {
            x.write(4 + k, 8);
            CHECKS.same("RELOAD, the second byte", x.counter(k, Setups.RELOAD), 0x0807);
            CHECKS.same("the latched STATUS", x.read(4 + k), 128 + 48 + 4);
            CHECKS.same("the latched COUNT, low", x.read(4 + k), 3);
            CHECKS.same("the latched COUNT, high", x.read(4 + k), 2);
            CHECKS.same("COUNT as it is", x.read(4 + k), 2);
        }
        CHECKS.same("the poll of controller 0", x.read(0), 128);
        CHECKS.same("the poll of controller 1", x.read(2), 128 + 5);
    }

    /** Makes calls on a busy object that must leave it as it was. */
    private static void unharmed(Consumer<TickLines> calls) {
        TickLines x = busy();
        String before = Setups.state(x);
        calls.accept(x);
        CHECKS.text("the state", Setups.state(x), before);
        goesOn(x);
    }

    private static void atFirst() {
        CHECKS.words("(at first all are 0 or off, none is ready, LOWEST is 7)");
        String controller = "0 0 0 7 0 0 0 0 ";
        String counter = "0 0 1 -1 0 0 0 ";
        TickLines x = new TickLines();
        String due = controller + controller + counter + counter + counter;
        CHECKS.text("the state", Setups.state(x), due);
        for (int port = 0; port < 4; port++) {
            CHECKS.same("read(" + port + ")", x.read(port), 0);
        }
        CHECKS.text("the state behind reading", Setups.state(x), due);
    }

    private static void lastCallOfAnObject() {
        CHECKS.words("An object is used for at most 512 calls after it has been made");
        TickLines x = Setups.counting(0, 2, 5);
        int calls = 3;
        for (int i = 0; calls < 510; i++) {
            CHECKS.same("tick " + i, x.tick(1), i > 0 && i % 5 == 0 ? 1 : 0);
            calls++;
        }
        CHECKS.same("the 511th call", x.counter(0, Setups.COUNT), 4);
        CHECKS.same("the 512th call", x.about(0, Setups.LINES), 1);
    }

    private static void writeNoSuchPort() {
        CHECKS.words("IllegalArgumentException if there is no such port or value is not 0 .. 255");
        unharmed(x -> {
            for (int port : FAR) {
                CHECKS.badArgument("write(" + port + ", 0)", () -> x.write(port, 0));
            }
            CHECKS.badArgument("write(8, 16)", () -> x.write(8, 16));
            CHECKS.badArgument("write(9, 16)", () -> x.write(9, 16));
        });
    }

    private static void writeNoByte() {
        CHECKS.words("IllegalArgumentException if there is no such port or value is not 0 .. 255");
        for (int port = 0; port < 8; port++) {
            int p = port;
            unharmed(x -> {
                for (int value : FAR) {
                    CHECKS.badArgument("write(" + p + ", " + value + ")", () -> x.write(p, value));
                }
            });
        }
    }

    private static void writeWithoutMode() {
        CHECKS.words("IllegalStateException if the port is that of a counter without a mode");
        unharmed(x -> {
            for (int value : new int[] {0, 1, 128, 255}) {
                CHECKS.badState("write(6, " + value + ")", () -> x.write(6, value));
            }
        });
        for (int k = 0; k < 3; k++) {
            TickLines x = new TickLines();
            int port = 4 + k;
            CHECKS.badState("write(" + port + ", 5) on a new object", () -> x.write(port, 5));
            Setups.mode(x, k, 4);
            Setups.reload(x, k, 0x0102);
            CHECKS.same("RELOAD, nothing came before it", x.counter(k, Setups.RELOAD), 0x0102);
        }
    }

    private static void writeBothHold() {
        CHECKS.words("(The one named first, if both hold.)");
        TickLines x = new TickLines();
        for (int port = 4; port < 7; port++) {
            int p = port;
            for (int value : FAR) {
                CHECKS.badArgument("write(" + p + ", " + value + ")", () -> x.write(p, value));
            }
        }
    }

    private static void writeRefusedInSettingUp() {
        CHECKS.words("IllegalArgumentException if there is no such port or value is not 0 .. 255");
        for (int c = 0; c < 2; c++) {
            TickLines x = new TickLines();
            int side1 = 2 * c + 1;
            x.write(2 * c, 17);
            for (int i = 0; i < 3; i++) {
                CHECKS.badArgument("write of 256", () -> x.write(side1, 256));
                CHECKS.badArgument("write of -1", () -> x.write(side1, -1));
                CHECKS.same("ready, " + i + " bytes behind the first", x.about(c, Setups.READY), 0);
                x.write(side1, 0x50);
            }
            CHECKS.same("ready", x.about(c, Setups.READY), 1);
            CHECKS.same("BASE", x.about(c, Setups.BASE), 0x50);
        }
    }

    private static void writeRefusedBetweenBytes() {
        CHECKS.words("IllegalArgumentException if there is no such port or value is not 0 .. 255");
        for (int k = 0; k < 3; k++) {
            TickLines x = new TickLines();
            int port = 4 + k;
            Setups.mode(x, k, 0);
            CHECKS.badArgument("write of 256", () -> x.write(port, 256));
            x.write(port, 3);
            CHECKS.badArgument("write of -1", () -> x.write(port, -1));
            CHECKS.same("RELOAD, one byte of two", x.counter(k, Setups.RELOAD), 0);
            x.write(port, 1);
            CHECKS.same("RELOAD", x.counter(k, Setups.RELOAD), 0x0103);
        }
    }

    private static void writeSmallestAndLargest() {
        CHECKS.words("A byte is written to a port");
        for (int port = 0; port < 8; port++) {
            TickLines x = Setups.both();
            for (int k = 0; k < 3; k++) {
                Setups.mode(x, k, 4);
            }
            int p = port;
            for (int value = 0; value < 256; value++) {
                int v = value;
                CHECKS.quiet("write(" + p + ", " + v + ")", () -> x.write(p, v));
            }
        }
    }

    private static void readNoSuchPort() {
        CHECKS.words("IllegalArgumentException if there is no such port, or it is 7");
        unharmed(x -> {
            for (int port : FAR) {
                CHECKS.badArgument("read(" + port + ")", () -> x.read(port));
            }
            CHECKS.badArgument("read(8)", () -> x.read(8));
        });
    }

    private static void readControl() {
        CHECKS.words("IllegalArgumentException if there is no such port, or it is 7");
        unharmed(x -> CHECKS.badArgument("read(7)", () -> x.read(7)));
        CHECKS.badArgument("read(7) on a new object", () -> new TickLines().read(7));
    }

    private static void readWithoutMode() {
        CHECKS.words("IllegalStateException if it is that of a counter without a mode");
        for (int k = 0; k < 3; k++) {
            TickLines x = new TickLines();
            int port = 4 + k;
            CHECKS.badState("read(" + port + ")", () -> x.read(port));
            Setups.mode(x, (k + 1) % 3, 0);
            Setups.mode(x, (k + 2) % 3, 0);
            CHECKS.badState("read(" + port + "), the others have one", () -> x.read(port));
            Setups.mode(x, k, 0);
            CHECKS.same("read(" + port + ") with a mode, EMPTY", x.read(port), 0);
        }
    }

    private static void readRefusedChangesNothing() {
        CHECKS.words("IllegalStateException if it is that of a counter without a mode");
        unharmed(x -> CHECKS.badState("read(6)", () -> x.read(6)));
    }

    private static void lineNoSuchLine() {
        CHECKS.words("False if there is no such line");
        unharmed(x -> {
            for (int wrong : FAR) {
                CHECKS.no("line(0, " + wrong + ")", x.line(0, wrong, true));
                CHECKS.no("line(1, " + wrong + ")", x.line(1, wrong, false));
                CHECKS.no("line(" + wrong + ", 4)", x.line(wrong, 4, false));
                CHECKS.no("line(" + wrong + ", 0)", x.line(wrong, 0, true));
            }
            CHECKS.no("line(0, 8)", x.line(0, 8, true));
            CHECKS.no("line(1, 8)", x.line(1, 8, true));
            for (int line = -1; line < 9; line++) {
                CHECKS.no("line(2, " + line + ", true)", x.line(2, line, true));
                CHECKS.no("line(2, " + line + ", false)", x.line(2, line, false));
            }
        });
    }

    private static void lineOfTheObjectItself() {
        CHECKS.words("or it is line 0 or 2 of controller 0");
        unharmed(x -> {
            CHECKS.same("both are on", x.about(0, Setups.LINES), 0x15);
            for (int line = 0; line < 3; line += 2) {
                CHECKS.no("line(0, " + line + ", false)", x.line(0, line, false));
                CHECKS.no("line(0, " + line + ", true)", x.line(0, line, true));
            }
        });
        TickLines x = Setups.both();
        CHECKS.no("line(0, 0, true)", x.line(0, 0, true));
        CHECKS.no("line(0, 2, true)", x.line(0, 2, true));
        CHECKS.same("both are off", x.about(0, Setups.LINES), 0);
        CHECKS.same("and were not on", x.about(0, Setups.LATCHES), 0);
        CHECKS.yes("line(1, 0, true)", x.line(1, 0, true));
        CHECKS.yes("line(1, 2, true)", x.line(1, 2, true));
        CHECKS.same("those of controller 1", x.about(1, Setups.LINES), 5);
    }

    private static void lineFirstAndLast() {
        CHECKS.words("A line of a controller is on or off: true");
        for (int c = 0; c < 2; c++) {
            TickLines x = new TickLines();
            int lines = 0;
            for (int line = c == 0 ? 1 : 0; line < 8; line += line == 1 && c == 0 ? 2 : 1) {
                CHECKS.yes("on", x.line(c, line, true));
                CHECKS.yes("on when it is on", x.line(c, line, true));
                lines |= 1 << line;
                CHECKS.same("lines", x.about(c, Setups.LINES), lines);
            }
            CHECKS.same("all of them", lines, c == 0 ? 0xFA : 0xFF);
            CHECKS.yes("off", x.line(c, 7, false));
            CHECKS.yes("off when it is off", x.line(c, 7, false));
            CHECKS.same("lines", x.about(c, Setups.LINES), lines & 0x7F);
            CHECKS.same("lines of the other", x.about(1 - c, Setups.LINES), 0);
        }
    }

    private static void gateNoSuchCounter() {
        CHECKS.words("false if there is no such counter");
        unharmed(x -> {
            for (int wrong : FAR) {
                CHECKS.no("gate(" + wrong + ", false)", x.gate(wrong, false));
                CHECKS.no("gate(" + wrong + ", true)", x.gate(wrong, true));
            }
            CHECKS.no("gate(3, false)", x.gate(3, false));
            CHECKS.no("gate(4, false)", x.gate(4, false));
        });
        TickLines x = new TickLines();
        for (int k = 0; k < 3; k++) {
            CHECKS.yes("gate(" + k + ", false)", x.gate(k, false));
            CHECKS.same("gate", x.counter(k, Setups.GATE), 0);
        }
    }

    private static void tickTooFewOrMany() {
        CHECKS.words("IllegalArgumentException if n is not 0 .. 100");
        unharmed(x -> {
            for (int n : FAR) {
                CHECKS.badArgument("tick(" + n + ")", () -> x.tick(n));
            }
            CHECKS.badArgument("tick(101)", () -> x.tick(101));
        });
    }

    private static void tickNone() {
        CHECKS.words("n ticks: how often the output of counter 0 came on in them");
        unharmed(x -> CHECKS.same("tick(0)", x.tick(0), 0));
    }

    private static void tickMost() {
        CHECKS.words("n ticks: how often the output of counter 0 came on in them");
        TickLines x = Setups.counting(1, 4, 1000);
        CHECKS.same("tick(1)", x.tick(1), 0);
        CHECKS.same("COUNT", x.counter(1, Setups.COUNT), 1000);
        CHECKS.same("tick(100)", x.tick(100), 0);
        CHECKS.same("COUNT", x.counter(1, Setups.COUNT), 900);
        CHECKS.same("tick(99)", x.tick(99), 0);
        CHECKS.same("COUNT", x.counter(1, Setups.COUNT), 801);
        CHECKS.same("as often as can be", Setups.counting(0, 3, 2).tick(100), 49);
    }

    private static void tickCameOn() {
        CHECKS.words("(was off before a tick and on after it)");
        TickLines x = Setups.counting(0, 2, 2);
        CHECKS.same("on before and on", x.tick(1), 0);
        CHECKS.same("on before and off", x.tick(1), 0);
        CHECKS.same("off before and on", x.tick(1), 1);
        CHECKS.same("off, on, off, on", x.tick(4), 2);
        x = Setups.counting(0, 0, 3);
        CHECKS.same("off before and off", x.tick(3), 0);
        CHECKS.same("off before and on", x.tick(1), 1);
        CHECKS.same("on before and on", x.tick(100), 0);
        CHECKS.same("counter 1", Setups.counting(1, 2, 2).tick(100), 0);
        CHECKS.same("counter 2", Setups.counting(2, 2, 2).tick(100), 0);
    }

    private static void tickCameOnAndOff() {
        CHECKS.words("(was off before a tick and on after it)");
        TickLines x = Setups.counting(0, 2, 1);
        x.tick(2);
        CHECKS.same("off", x.counter(0, Setups.OUTPUT), 0);
        CHECKS.same("mode 2, on and off within a tick", x.tick(100), 0);
        CHECKS.same("mode 3, off and on within a tick", Setups.counting(0, 3, 1).tick(100), 0);
    }

    private static void tickCameOnBetween() {
        CHECKS.words("(was off before a tick and on after it)");
        TickLines x = Setups.counting(0, 2, 2);
        x.tick(2);
        CHECKS.same("off", x.counter(0, Setups.OUTPUT), 0);
        x.gate(0, false);
        CHECKS.same("on by its gate", x.counter(0, Setups.OUTPUT), 1);
        CHECKS.same("on before the tick", x.tick(3), 0);
    }

    private static void acknowledgeNotReady() {
        CHECKS.words("IllegalStateException if it is not ready");
        TickLines x = new TickLines();
        Setups.setUp(x, 1, 40, -1);
        Setups.on(x, 1, 5);
        String before = Setups.state(x);
        CHECKS.badState("before any setting up", x::acknowledge);
        CHECKS.text("the state", Setups.state(x), before);
        x.write(0, 17);
        for (int i = 0; i < 3; i++) {
            Setups.on(x, 0, 4);
            before = Setups.state(x);
            CHECKS.badState(i + " bytes behind the first", x::acknowledge);
            CHECKS.text("the state", Setups.state(x), before);
            x.write(1, i == 0 ? 32 : 0);
        }
        CHECKS.same("ready", x.acknowledge(), 36);
        x.write(0, 16);
        CHECKS.badState("no more ready", x::acknowledge);
    }

    private static void chosenNone() {
        CHECKS.words("NONE if none, or there is no such controller");
        CHECKS.same("NONE", TickLines.NONE, -1);
        TickLines quiet = Setups.both();
        CHECKS.same("chosen(0), none", quiet.chosen(0), -1);
        CHECKS.same("chosen(1), none", quiet.chosen(1), -1);
        unharmed(x -> {
            for (int wrong : FAR) {
                CHECKS.same("chosen(" + wrong + ")", x.chosen(wrong), -1);
            }
            CHECKS.same("chosen(2)", x.chosen(2), -1);
            CHECKS.same("chosen(3)", x.chosen(3), -1);
            CHECKS.same("chosen(0)", x.chosen(0), 0);
            CHECKS.same("chosen(1)", x.chosen(1), 5);
        });
    }

    private static void aboutNone() {
        CHECKS.words("NONE if there is no such controller or what");
        unharmed(x -> {
            for (int wrong : FAR) {
                CHECKS.same("about(0, " + wrong + ")", x.about(0, wrong), -1);
                CHECKS.same("about(1, " + wrong + ")", x.about(1, wrong), -1);
                for (int what = 0; what < 8; what++) {
                    CHECKS.same("about(" + wrong + ", " + what + ")", x.about(wrong, what), -1);
                }
            }
            CHECKS.same("about(0, 8)", x.about(0, 8), -1);
            CHECKS.same("about(1, 8)", x.about(1, 8), -1);
            for (int what = -1; what < 9; what++) {
                CHECKS.same("about(2, " + what + ")", x.about(2, what), -1);
            }
        });
    }

    private static void aboutEmptyAndFull() {
        CHECKS.words("what 0 its requests, 1 its levels in service, 2 its MASK .. 5 its lines, 6 its latches (as bits)");
        for (int c = 0; c < 2; c++) {
            TickLines x = Setups.both();
            for (int what : new int[] {0, 1, 2, 5, 6}) {
                CHECKS.same("about(" + c + ", " + what + "), none", x.about(c, what), 0);
            }
            x = Setups.fullService(c);
            Setups.raiseAll(x, c);
            x.write(2 * c + 1, 0xFF);
            for (int what : new int[] {0, 1, 2, 5, 6}) {
                CHECKS.same("about(" + c + ", " + what + "), all", x.about(c, what), 0xFF);
            }
            CHECKS.same("LOWEST", x.about(c, Setups.LOWEST), 7);
            CHECKS.same("BASE", x.about(c, Setups.BASE), 32 + 8 * c);
            CHECKS.same("ready", x.about(c, Setups.READY), 1);
        }
    }

    private static void counterNone() {
        CHECKS.words("NONE if there is no such counter or what");
        unharmed(x -> {
            for (int wrong : FAR) {
                for (int k = 0; k < 3; k++) {
                    CHECKS.same("counter(" + k + ", " + wrong + ")", x.counter(k, wrong), -1);
                }
                for (int what = 0; what < 7; what++) {
                    CHECKS.same("counter(" + wrong + ", " + what + ")", x.counter(wrong, what), -1);
                }
            }
            for (int k = 0; k < 3; k++) {
                CHECKS.same("counter(" + k + ", 7)", x.counter(k, 7), -1);
            }
            for (int what = -1; what < 8; what++) {
                CHECKS.same("counter(3, " + what + ")", x.counter(3, what), -1);
            }
        });
    }

    private static void counterModeAndReload() {
        CHECKS.words("3 its mode (NONE without), 4 RELOAD (0 if EMPTY)");
        for (int k = 0; k < 3; k++) {
            TickLines x = new TickLines();
            CHECKS.same("mode, without", x.counter(k, Setups.MODE), -1);
            CHECKS.same("RELOAD, without a mode", x.counter(k, Setups.RELOAD), 0);
            Setups.mode(x, k, 0);
            CHECKS.same("mode", x.counter(k, Setups.MODE), 0);
            CHECKS.same("RELOAD, EMPTY", x.counter(k, Setups.RELOAD), 0);
            Setups.reload(x, k, 65536);
            CHECKS.same("RELOAD, the largest", x.counter(k, Setups.RELOAD), 65536);
            Setups.reload(x, k, 1);
            CHECKS.same("RELOAD, the smallest", x.counter(k, Setups.RELOAD), 1);
            Setups.mode(x, k, 5);
            CHECKS.same("RELOAD, EMPTY again", x.counter(k, Setups.RELOAD), 0);
        }
    }
}
