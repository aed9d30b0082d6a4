/** The boundary cases that the terms name for control, for what is latched, and for STATUS. */
public final class ControlBoundsTest {
    private static final Checks CHECKS = new Checks();
    private static final int[] PARTS = {0, 0x0100, 0x1234, 0xFF00, 0xFFFF};

    public static void main(String[] args) {
        manyWithoutMode();
        manyWithoutCounters();
        manyWithoutAnything();
        for (int k = 0; k < 3; k++) {
            manyOfOne(k);
            manyCountAlone(k);
            manyStatusAlone(k);
            latchedCountStays(k);
            latchedStatusStays(k);
            latchWithoutMode(k);
            latchIsNoMode(k);
            modesSixAndSeven(k);
            lowestBitOfControl(k);
            newModeIsEmpty(k);
            newModeLatchesNothing(k);
            newModeAndBytesWritten(k);
            newModeAndBytesRead(k);
            outputOfNewMode(k);
        }
        for (int k = 0; k < 3; k++) {
            statusBits(k);
            statusBehindMode(k);
            statusBehindReload(k);
            statusOfPart(k);
            statusIsReadFirst(k);
            statusIsReadOnce(k);
            lowByte(k);
            highByte(k);
            bothBytes(k);
            latchedUntilItsLastByte(k);
            countAsItIs(k);
        }
        CHECKS.end();
    }

    private static int many(int k) {
        return 0xC0 | 2 << k;
    }

    /** A counter whose COUNT is the one that is told, in mode 4 by that ACCESS; nothing is loaded. */
    private static TickLines withCount(int k, int count, int access) {
        TickLines x = Setups.counting(k, 4, count);
        x.tick(1);
        x.write(7, k << 6 | access << 4 | 8);
        CHECKS.same("COUNT", x.counter(k, Setups.COUNT), count);
        return x;
    }

    /** Makes the COUNT another one, which lacks each byte of the one before. */
    private static void change(TickLines x, int k) {
        x.write(4 + k, 0x77);
        x.write(4 + k, 0x77);
        x.tick(1);
    }

    /** All three counters in mode 2 by ACCESS 1, latched by a control byte at 20 and gone on to 19. */
    private static TickLines latchedAtTwenty(int control) {
        TickLines x = new TickLines();
        for (int k = 0; k < 3; k++) {
            x.write(7, k << 6 | 0x14);
            x.write(4 + k, 20);
        }
        x.tick(1);
        x.write(7, control);
        x.tick(1);
        return x;
    }

    private static void manyWithoutMode() {
        CHECKS.words("for each counter j for which bit 1 + j is 1 (and that has a mode)");
        TickLines x = new TickLines();
        String before = Setups.state(x);
        for (int value = 0xC0; value < 0x100; value++) {
            int v = value;
            CHECKS.quiet("write(7, " + v + ")", () -> x.write(7, v));
        }
        CHECKS.text("the state", Setups.state(x), before);
        for (int k = 0; k < 3; k++) {
            int p = 4 + k;
            CHECKS.badState("counter " + k + " still has no mode", () -> x.read(p));
        }

        TickLines y = withCount(1, 0x1234, 3);
        y.write(7, 0xCE);
        change(y, 1);
        CHECKS.same("STATUS of the one that has a mode", y.read(5), 128 + 64 + 48 + 8);
        CHECKS.same("COUNT of the one that has a mode", y.read(5), 0x34);
    }

    private static void manyWithoutCounters() {
        CHECKS.words("for each counter j for which bit 1 + j is 1");
        for (int value : new int[] {0xC0, 0xC1, 0xD0, 0xE0}) {
            TickLines x = latchedAtTwenty(value);
            for (int k = 0; k < 3; k++) {
                CHECKS.same("counter " + k + " behind " + value, x.read(4 + k), 19);
            }
        }
    }

    private static void manyWithoutAnything() {
        CHECKS.words("without bit 5 its COUNT is LATCHED, without bit 4 its STATUS is");
        for (int value : new int[] {0xFE, 0xFF}) {
            TickLines x = latchedAtTwenty(value);
            for (int k = 0; k < 3; k++) {
                CHECKS.same("counter " + k + " behind " + value, x.read(4 + k), 19);
            }
        }
    }

    private static void manyOfOne(int k) {
        CHECKS.words("for each counter j for which bit 1 + j is 1");
        TickLines x = latchedAtTwenty(many(k));
        for (int j = 0; j < 3; j++) {
            CHECKS.same("counter " + j, x.read(4 + j), j == k ? 128 + 16 + 4 : 19);
        }
        CHECKS.same("and its COUNT", x.read(4 + k), 20);
    }

    private static void manyCountAlone(int k) {
        CHECKS.words("without bit 5 its COUNT is LATCHED");
        TickLines x = withCount(k, 0x1234, 1);
        x.write(7, many(k) | 0x10);
        change(x, k);
        CHECKS.same("COUNT, no STATUS", x.read(4 + k), 0x34);
        CHECKS.same("COUNT as it is", x.read(4 + k), 0x77);
    }

    private static void manyStatusAlone(int k) {
        CHECKS.words("without bit 4 its STATUS is");
        TickLines x = withCount(k, 0x1234, 1);
        x.write(7, many(k) | 0x20);
        change(x, k);
        CHECKS.same("STATUS", x.read(4 + k), 128 + 64 + 16 + 8);
        CHECKS.same("COUNT as it is", x.read(4 + k), 0x77);
    }

    private static void latchedCountStays(int k) {
        CHECKS.words("(what is latched already stays so)");
        int[] ways = {k << 6, many(k) | 0x10, many(k), 0xCE};
        for (int first : ways) {
            for (int second : ways) {
                TickLines x = withCount(k, 0x1234, 3);
                x.write(7, first);
                change(x, k);
                x.write(7, second);
                if (first == many(k) || first == 0xCE || second == many(k) || second == 0xCE) {
                    x.read(4 + k);
                }
                CHECKS.same(first + " and " + second + ", low", x.read(4 + k), 0x34);
                x.write(7, k << 6);
                CHECKS.same(first + " and " + second + ", high", x.read(4 + k), 0x12);
                CHECKS.same(first + " and " + second + ", no more", x.read(4 + k), 0x77);
            }
        }
    }

    private static void latchedStatusStays(int k) {
        CHECKS.words("(what is latched already stays so)");
        int[] ways = {many(k) | 0x20, many(k), 0xCE};
        for (int first : ways) {
            for (int second : ways) {
                TickLines x = Setups.counting(k, 4, 3);
                x.write(7, first);
                x.tick(4);
                x.write(7, second);
                CHECKS.same(first + " and " + second, x.read(4 + k), 128 + 64 + 48 + 8);
                CHECKS.same("the next one", Setups.status(x, k), 48 + 8);
            }
        }
    }

    private static void latchWithoutMode(int k) {
        CHECKS.words("a 0: counter k (if it has a mode) latches its count");
        TickLines x = new TickLines();
        String before = Setups.state(x);
        for (int low = 0; low < 16; low++) {
            int value = k << 6 | low;
            CHECKS.quiet("write(7, " + value + ")", () -> x.write(7, value));
        }
        CHECKS.text("the state", Setups.state(x), before);
        CHECKS.badState("it still has no mode", () -> x.read(4 + k));
    }

    private static void latchIsNoMode(int k) {
        CHECKS.words("a 0: counter k (if it has a mode) latches its count");
        for (int low = 0; low < 16; low++) {
            TickLines x = Setups.counting(k, 4, 0x1234);
            x.tick(1);
            String before = Setups.state(x);
            x.write(7, k << 6 | low);
            CHECKS.text("the state", Setups.state(x), before);
            change(x, k);
            CHECKS.same("low", x.read(4 + k), 0x34);
            CHECKS.same("high", x.read(4 + k), 0x12);
        }
    }

    private static void modesSixAndSeven(int k) {
        CHECKS.words("the mode (v >> 1 & 7, but 6 and 7 are 2 and 3)");
        int[] due = {0, 1, 2, 3, 4, 5, 2, 3};
        for (int mode = 0; mode < 8; mode++) {
            TickLines x = new TickLines();
            Setups.mode(x, k, mode);
            CHECKS.same("mode by " + mode, x.counter(k, Setups.MODE), due[mode]);
            CHECKS.same("STATUS by " + mode, Setups.status(x, k) & 15, 2 * due[mode]);
        }
        CHECKS.text("mode 6", Setups.counts(Setups.counting(k, 6, 3), k, 5), "3 2 1 3 2");
        CHECKS.text("mode 7", Setups.counts(Setups.counting(k, 7, 3), k, 5), "4 2 2 4 2");
    }

    private static void lowestBitOfControl(int k) {
        CHECKS.words("the mode (v >> 1 & 7");
        TickLines x = new TickLines();
        x.write(7, k << 6 | 0x15);
        CHECKS.same("mode", x.counter(k, Setups.MODE), 2);
        x.write(4 + k, 0x10);
        CHECKS.text("counted by two, not by ten", Setups.counts(x, k, 2), "16 15");
    }

    private static void newModeIsEmpty(int k) {
        CHECKS.words("it is EMPTY (without RELOAD), stands still");
        for (int from = 0; from < 6; from++) {
            for (int to = 0; to < 6; to++) {
                TickLines x = Setups.counting(k, from, 9);
                Setups.trigger(x, k);
                x.tick(1);
                int count = x.counter(k, Setups.COUNT);
                Setups.trigger(x, k);
                Setups.reload(x, k, 7);
                Setups.mode(x, k, to);
                CHECKS.same("RELOAD, " + from + " to " + to, x.counter(k, Setups.RELOAD), 0);
                CHECKS.same("runs, " + from + " to " + to, x.counter(k, Setups.RUNS), 0);
                CHECKS.same("to be loaded, " + from + " to " + to, x.counter(k, Setups.TO_LOAD), 0);
                x.tick(3);
                CHECKS.same("COUNT, " + from + " to " + to, x.counter(k, Setups.COUNT), count);
            }
        }
    }

    private static void newModeLatchesNothing(int k) {
        CHECKS.words("nothing is latched");
        TickLines x = withCount(k, 0x1234, 3);
        x.write(7, many(k));
        change(x, k);
        Setups.mode(x, k, 2);
        CHECKS.same("neither STATUS nor COUNT", x.read(4 + k), 0x77);
    }

    private static void newModeAndBytesWritten(int k) {
        CHECKS.words("the next byte written or read is a low one");
        for (int mode = 0; mode < 6; mode++) {
            TickLines x = new TickLines();
            Setups.mode(x, k, mode);
            x.write(4 + k, 5);
            Setups.mode(x, k, mode);
            x.write(4 + k, 6);
            CHECKS.same("RELOAD, still EMPTY", x.counter(k, Setups.RELOAD), 0);
            x.write(4 + k, 7);
            CHECKS.same("RELOAD", x.counter(k, Setups.RELOAD), 0x0706);
        }
    }

    private static void newModeAndBytesRead(int k) {
        CHECKS.words("the next byte written or read is a low one");
        TickLines x = withCount(k, 0x1234, 3);
        CHECKS.same("low", x.read(4 + k), 0x34);
        Setups.mode(x, k, 4);
        CHECKS.same("low again", x.read(4 + k), 0x34);
        CHECKS.same("high", x.read(4 + k), 0x12);
    }

    private static void outputOfNewMode(int k) {
        CHECKS.words("the output is off in mode 0, else on");
        for (int from = 0; from < 6; from++) {
            for (int to = 0; to < 6; to++) {
                TickLines x = new TickLines();
                Setups.mode(x, k, from);
                Setups.mode(x, k, to);
                CHECKS.same("output, " + from + " to " + to, x.counter(k, Setups.OUTPUT), to == 0 ? 0 : 1);
            }
        }
    }

    private static void statusBits(int k) {
        CHECKS.words("STATUS: 128 for the output .. 16 * ACCESS, 2 * mode");
        for (int mode = 0; mode < 6; mode++) {
            for (int access = 1; access < 4; access++) {
                TickLines x = new TickLines();
                x.write(7, k << 6 | access << 4 | mode << 1);
                int due = (mode == 0 ? 0 : 128) + 64 + 16 * access + 2 * mode;
                CHECKS.same("STATUS", Setups.status(x, k), due);
            }
        }
    }

    private static void statusBehindMode(int k) {
        CHECKS.words("64 if since the mode or a RELOAD was written last COUNT did not yet become RELOAD");
        for (int mode = 0; mode < 6; mode++) {
            TickLines x = Setups.counting(k, 4, 3);
            x.tick(1);
            CHECKS.no("before the mode", Setups.pending(x, k));
            Setups.mode(x, k, mode);
            CHECKS.yes("behind the mode", Setups.pending(x, k));
            x.tick(100);
            CHECKS.yes("while it is EMPTY", Setups.pending(x, k));
        }
    }

    private static void statusBehindReload(int k) {
        CHECKS.words("64 if since the mode or a RELOAD was written last COUNT did not yet become RELOAD");
        for (int mode = 0; mode < 6; mode++) {
            for (int reload : new int[] {1, 2, 3, 65535, 65536}) {
                TickLines x = Setups.counting(k, mode, reload);
                Setups.trigger(x, k);
                CHECKS.yes("before the load", Setups.pending(x, k));
                x.tick(1);
                CHECKS.no("behind it, RELOAD " + reload, Setups.pending(x, k));
                Setups.reload(x, k, reload);
                CHECKS.yes("RELOAD was written again", Setups.pending(x, k));
                Setups.trigger(x, k);
                x.tick(1);
                CHECKS.no("behind the next load", Setups.pending(x, k));
            }
        }
    }

    private static void statusOfPart(int k) {
        CHECKS.words("(or in mode 3 a part of it)");
        TickLines x = Setups.counting(k, 3, 4);
        x.tick(1);
        Setups.reload(x, k, 6);
        x.tick(1);
        CHECKS.yes("in the part of the RELOAD before", Setups.pending(x, k));
        x.tick(1);
        CHECKS.same("output, the off part began", x.counter(k, Setups.OUTPUT), 0);
        CHECKS.no("in a part of the RELOAD", Setups.pending(x, k));

        x = Setups.counting(k, 2, 3);
        x.tick(1);
        Setups.reload(x, k, 2);
        x.tick(2);
        CHECKS.yes("mode 2, before it begins anew", Setups.pending(x, k));
        x.tick(1);
        CHECKS.no("mode 2, behind it", Setups.pending(x, k));
    }

    private static void statusIsReadFirst(int k) {
        CHECKS.words("its latched status, if there is one");
        for (int access = 1; access < 4; access++) {
            TickLines x = withCount(k, 0x1234, access);
            x.write(7, k << 6);
            x.write(7, many(k) | 0x20);
            CHECKS.same("STATUS, latched last", x.read(4 + k), 128 + 64 + 16 * access + 8);
            CHECKS.same("COUNT behind it", x.read(4 + k), access == 2 ? 0x12 : 0x34);
        }
        TickLines x = withCount(k, 0x1234, 3);
        CHECKS.same("low", x.read(4 + k), 0x34);
        CHECKS.same("STATUS between the bytes", Setups.status(x, k), 128 + 64 + 48 + 8);
        CHECKS.same("high", x.read(4 + k), 0x12);
    }

    private static void statusIsReadOnce(int k) {
        CHECKS.words("which is latched no more");
        TickLines x = withCount(k, 0x1234, 1);
        CHECKS.same("STATUS", Setups.status(x, k), 128 + 64 + 16 + 8);
        CHECKS.same("COUNT", x.read(4 + k), 0x34);
        CHECKS.same("COUNT again", x.read(4 + k), 0x34);
    }

    private static void lowByte(int k) {
        CHECKS.words("ACCESS 1 the low one");
        for (int count : PARTS) {
            TickLines x = withCount(k, count, 1);
            CHECKS.same("COUNT " + count, x.read(4 + k), count & 255);
            CHECKS.same("COUNT " + count + " again", x.read(4 + k), count & 255);
        }
    }

    private static void highByte(int k) {
        CHECKS.words("2 the high one");
        for (int count : PARTS) {
            TickLines x = withCount(k, count, 2);
            CHECKS.same("COUNT " + count, x.read(4 + k), count >> 8);
            CHECKS.same("COUNT " + count + " again", x.read(4 + k), count >> 8);
        }
    }

    private static void bothBytes(int k) {
        CHECKS.words("3 the low one, then the high one");
        for (int count : PARTS) {
            TickLines x = withCount(k, count, 3);
            for (int twice = 0; twice < 2; twice++) {
                CHECKS.same("COUNT " + count + ", low", x.read(4 + k), count & 255);
                CHECKS.same("COUNT " + count + ", high", x.read(4 + k), count >> 8);
            }
        }
    }

    private static void latchedUntilItsLastByte(int k) {
        CHECKS.words("(a latched count is latched no more when its last byte was read)");
        for (int access = 1; access < 4; access++) {
            TickLines x = withCount(k, 0x1234, access);
            x.write(7, k << 6);
            change(x, k);
            if (access != 2) {
                CHECKS.same("latched, low", x.read(4 + k), 0x34);
            }
            if (access != 1) {
                CHECKS.same("latched, high", x.read(4 + k), 0x12);
            }
            CHECKS.same("as it is", x.read(4 + k), 0x77);
        }
    }

    private static void countAsItIs(int k) {
        CHECKS.words("else a byte of the latched COUNT, or of COUNT as it is");
        TickLines x = Setups.counting(k, 4, 0x0100);
        x.tick(1);
        CHECKS.same("low", x.read(4 + k), 0);
        x.tick(1);
        CHECKS.same("high, one tick later", x.read(4 + k), 0);
        CHECKS.same("low", x.read(4 + k), 0xFF);
    }
}
