/** The boundary cases that the terms name for the bytes of a controller's two sides. */
public final class SideBoundsTest {
    private static final Checks CHECKS = new Checks();
    private static final int[] SOME_BYTES = {0, 1, 2, 4, 7, 8, 16, 18, 32, 64, 127, 128, 239, 255};

    public static void main(String[] args) {
        for (int c = 0; c < 2; c++) {
            sideZeroBeforeSettingUp(c);
            sideZeroWhileSettingUp(c);
            sideOneBeforeSettingUp(c);
            settingUpBegins(c);
            settingUpEndsModes(c);
            settingUpEndsWhatIsRead(c);
            settingUpBeginsAgain(c);
            baseWithoutLowestBits(c);
            thirdByteMeansNothing(c);
            noThirdByteIfSingle(c);
            noFourthByteWithoutFourth(c);
            fourthByte(c);
            readyBehindTheLast(c);
            maskWhenReady(c);
        }
        for (int c = 0; c < 2; c++) {
            endOfServiceGoesRound(c);
            endOfServiceWithoutOne(c);
            endOfServiceOfMasked(c);
            endOfServiceOfLevel(c);
            endOfServiceThatTurns(c);
            endOfServiceThatTurnsWithoutOne(c);
            endOfServiceOfLevelThatTurns(c);
            lowestAlone(c);
            turnsOrNot(c);
            commandTwo(c);
        }
        for (int c = 0; c < 2; c++) {
            specialOnlyWithBitSix(c);
            pollBeforeWhatIsRead(c);
            whatIsReadOnlyWithBitOne(c);
            bitThreeIsNoCommand(c);
            pollOfEachLevel(c);
            pollInVain(c);
            pollIsNoMore(c);
            readRequestsAndService(c);
            readMask(c);
        }
        CHECKS.end();
    }

    private static int side0(int c) {
        return 2 * c;
    }

    private static int side1(int c) {
        return 2 * c + 1;
    }

    private static void writeAllCommands(TickLines x, int c) {
        for (int value = 0; value < 256; value++) {
            if ((value & 16) == 0) {
                x.write(side0(c), value);
            }
        }
    }

    private static void sideZeroBeforeSettingUp(int c) {
        CHECKS.words("with bit 4: SETTING UP begins .. Otherwise, if it is ready");
        TickLines x = new TickLines();
        x.line(c, 6, true);
        String before = Setups.state(x);
        writeAllCommands(x, c);
        CHECKS.text("the state, before any setting up", Setups.state(x), before);
        CHECKS.same("no poll, and requests are read", x.read(side0(c)), 64);
        x.write(side1(c), 0xFF);
        CHECKS.text("the state, still before any setting up", Setups.state(x), before);
    }

    private static void sideZeroWhileSettingUp(int c) {
        CHECKS.words("with bit 4: SETTING UP begins .. Otherwise, if it is ready");
        for (int bytes = 0; bytes < 3; bytes++) {
            TickLines x = new TickLines();
            x.write(side0(c), 17);
            for (int i = 0; i < bytes; i++) {
                x.write(side1(c), 0x50);
            }
            x.line(c, 6, true);
            String before = Setups.state(x);
            writeAllCommands(x, c);
            CHECKS.text("the state, " + bytes + " bytes behind the first", Setups.state(x), before);
            CHECKS.same("no poll, and requests are read", x.read(side0(c)), 64);
            for (int i = bytes; i < 3; i++) {
                CHECKS.same("ready before the last byte", x.about(c, Setups.READY), 0);
                x.write(side1(c), i == 2 ? 2 : 0x50);
            }
            CHECKS.same("ready behind the last byte", x.about(c, Setups.READY), 1);
            CHECKS.same("BASE", x.about(c, Setups.BASE), 0x50);
            CHECKS.same("poll", Setups.poll(x, c), 128 + 6);
            CHECKS.same("LOWEST, as it does not turn", x.about(c, Setups.LOWEST), 7);
        }
    }

    private static void sideOneBeforeSettingUp(int c) {
        CHECKS.words("Before any setting up: nothing");
        TickLines x = new TickLines();
        Setups.setUp(x, 1 - c, 64, -1);
        String before = Setups.state(x);
        for (int value = 0; value < 256; value++) {
            x.write(side1(c), value);
        }
        CHECKS.text("the state", Setups.state(x), before);
        x.write(side0(c), 16);
        x.write(side1(c), 72);
        CHECKS.same("ready behind the second byte", x.about(c, Setups.READY), 0);
        x.write(side1(c), 0);
        CHECKS.same("ready behind the third byte", x.about(c, Setups.READY), 1);
        CHECKS.same("BASE", x.about(c, Setups.BASE), 72);
    }

    private static void settingUpBegins(int c) {
        CHECKS.words("SETTING UP begins: not ready; latches, MASK, SERVICE are 0, LOWEST 7");
        TickLines x = Setups.fullService(c);
        Setups.raiseAll(x, c);
        x.write(side1(c), 0xFF);
        x.write(side0(c), 0xC2);
        CHECKS.same("latches before", x.about(c, Setups.LATCHES), 0xFF);
        CHECKS.same("service before", x.about(c, Setups.SERVICE), 0xFF);
        x.write(side0(c), 16);
        int[] due = {0, 0, 0, 7, 32 + 8 * c, 0xFF, 0, 0};
        for (int what = 0; what < 8; what++) {
            CHECKS.same("about(" + c + ", " + what + ")", x.about(c, what), due[what]);
        }
    }

    private static void settingUpEndsModes(int c) {
        CHECKS.words("AUTO, NESTED, SPECIAL, TURNS off");
        TickLines x = Setups.both();
        Setups.setUp(x, c, 32 + 8 * c, 0x12);
        x.write(side0(c), 0x68);
        x.write(side0(c), 0x80);
        Setups.setUp(x, c, 32 + 8 * c, -1);
        Setups.raise(x, c, 2);
        Setups.poll(x, c);
        CHECKS.same("service, AUTO is off", x.about(c, Setups.SERVICE), 4);
        Setups.lower(x, c, 2);
        Setups.raise(x, c, 2);
        CHECKS.same("chosen, NESTED is off", x.chosen(c), TickLines.NONE);
        x.write(side1(c), 4);
        x.line(c, 5, true);
        CHECKS.same("chosen, SPECIAL is off", x.chosen(c), TickLines.NONE);

        x = Setups.bothAuto();
        x.write(side0(c), 0x80);
        Setups.setUp(x, c, 32 + 8 * c, 2);
        x.line(c, 5, true);
        CHECKS.same("poll", Setups.poll(x, c), 128 + 5);
        CHECKS.same("LOWEST, TURNS is off", x.about(c, Setups.LOWEST), 7);
    }

    private static void settingUpEndsWhatIsRead(int c) {
        CHECKS.words("requests are what is read, no poll; LEVEL is bit 3");
        TickLines x = Setups.both();
        x.write(side0(c), 0x0B);
        x.write(side0(c), 0x0C);
        x.write(side0(c), 0x18);
        x.line(c, 5, true);
        CHECKS.same("no poll, requests are read", x.read(side0(c)), 32);
        x.write(side0(c), 0x10);
        CHECKS.same("requests, LEVEL is off again", x.read(side0(c)), 0);
    }

    private static void settingUpBeginsAgain(int c) {
        CHECKS.words("with bit 4: SETTING UP begins .. the second byte: BASE is v");
        for (int bytes = 0; bytes < 3; bytes++) {
            TickLines x = new TickLines();
            x.write(side0(c), 17);
            for (int i = 0; i < bytes; i++) {
                x.write(side1(c), 0x50);
            }
            x.write(side0(c), 16);
            CHECKS.same("ready", x.about(c, Setups.READY), 0);
            x.write(side1(c), 0x68);
            CHECKS.same("BASE, " + bytes + " bytes behind the first", x.about(c, Setups.BASE), 0x68);
            CHECKS.same("ready before the third", x.about(c, Setups.READY), 0);
            x.write(side1(c), 0);
            CHECKS.same("ready behind the third", x.about(c, Setups.READY), 1);
        }
    }

    private static void baseWithoutLowestBits(int c) {
        CHECKS.words("BASE is v without its lowest three bits");
        for (int value = 0; value < 256; value++) {
            TickLines x = new TickLines();
            x.write(side0(c), 18);
            x.write(side1(c), value);
            CHECKS.same("BASE by " + value, x.about(c, Setups.BASE), value - value % 8);
        }
    }

    private static void thirdByteMeansNothing(int c) {
        CHECKS.words("then, if it is not SINGLE, a third byte, which means nothing");
        for (int value : SOME_BYTES) {
            TickLines x = Setups.both();
            x.write(side0(c), 17);
            x.write(side1(c), 0x50);
            String before = Setups.state(x);
            x.write(side1(c), value);
            CHECKS.text("the state behind " + value, Setups.state(x), before);
            x.write(side1(c), 0);
            CHECKS.same("ready behind the fourth byte", x.about(c, Setups.READY), 1);

            x = Setups.both();
            x.write(side0(c), 16);
            x.write(side1(c), 0x50);
            x.write(side1(c), value);
            CHECKS.same("ready behind " + value, x.about(c, Setups.READY), 1);
            Setups.raise(x, c, 2);
            Setups.poll(x, c);
            CHECKS.same("service, not AUTO", x.about(c, Setups.SERVICE), 4);
            Setups.lower(x, c, 2);
            Setups.raise(x, c, 2);
            CHECKS.same("chosen, not NESTED", x.chosen(c), TickLines.NONE);
        }
    }

    private static void noThirdByteIfSingle(int c) {
        CHECKS.words("then, if it is not SINGLE, a third byte");
        TickLines x = new TickLines();
        x.write(side0(c), 18);
        x.write(side1(c), 0);
        CHECKS.same("ready behind the second byte", x.about(c, Setups.READY), 1);
        x.write(side1(c), 0x12);
        CHECKS.same("MASK", x.about(c, Setups.MASK), 0x12);

        x = new TickLines();
        x.write(side0(c), 19);
        x.write(side1(c), 0);
        CHECKS.same("ready before the fourth byte", x.about(c, Setups.READY), 0);
        x.write(side1(c), 2);
        CHECKS.same("ready behind the fourth byte", x.about(c, Setups.READY), 1);
        x.line(c, 4, true);
        Setups.poll(x, c);
        CHECKS.same("service, AUTO", x.about(c, Setups.SERVICE), 0);
    }

    private static void noFourthByteWithoutFourth(int c) {
        CHECKS.words("FOURTH, bit 0, tells whether there will be a fourth byte");
        TickLines x = new TickLines();
        x.write(side0(c), 16);
        x.write(side1(c), 0);
        x.write(side1(c), 0);
        CHECKS.same("ready behind the third byte", x.about(c, Setups.READY), 1);
        x.write(side1(c), 0x12);
        CHECKS.same("MASK", x.about(c, Setups.MASK), 0x12);
        x.line(c, 6, true);
        Setups.poll(x, c);
        CHECKS.same("service, not AUTO", x.about(c, Setups.SERVICE), 64);
    }

    private static void fourthByte(int c) {
        CHECKS.words("then, if FOURTH, a fourth one: AUTO is bit 1, NESTED bit 4");
        for (int value : SOME_BYTES) {
            TickLines x = Setups.both();
            Setups.setUp(x, c, 32 + 8 * c, value);
            CHECKS.same("MASK behind " + value, x.about(c, Setups.MASK), 0);
            Setups.raise(x, c, 2);
            Setups.poll(x, c);
            boolean auto = (value & 2) != 0;
            CHECKS.same("service behind " + value, x.about(c, Setups.SERVICE), auto ? 0 : 4);
            Setups.lower(x, c, 2);
            Setups.raise(x, c, 2);
            boolean nested = c == 0 && (value & 16) != 0;
            CHECKS.same("chosen behind " + value, x.chosen(c), auto || nested ? 2 : TickLines.NONE);
        }
    }

    private static void readyBehindTheLast(int c) {
        CHECKS.words("behind the last one it is ready");
        // By SINGLE (bit 1) and FOURTH (bit 0), how many bytes side 1 takes.
        int[] lengths = {2, 3, 1, 2};
        for (int first = 16; first < 32; first++) {
            TickLines x = new TickLines();
            x.write(side0(c), first);
            for (int i = 0; i < lengths[first & 3]; i++) {
                CHECKS.same("first byte " + first + ", before byte " + i, x.about(c, Setups.READY), 0);
                x.write(side1(c), 0xFF);
            }
            CHECKS.same("first byte " + first + ", behind the last", x.about(c, Setups.READY), 1);
            CHECKS.same("first byte " + first + ", MASK", x.about(c, Setups.MASK), 0);
        }
    }

    private static void maskWhenReady(int c) {
        CHECKS.words("When it is ready: MASK is v");
        TickLines x = Setups.both();
        for (int value : SOME_BYTES) {
            x.write(side1(c), value);
            CHECKS.same("MASK", x.about(c, Setups.MASK), value);
            CHECKS.same("BASE", x.about(c, Setups.BASE), 32 + 8 * c);
            CHECKS.same("MASK of the other", x.about(1 - c, Setups.MASK), 0);
        }
    }

    private static void endOfServiceGoesRound(int c) {
        CHECKS.words("1: the first level in order of priority that holds ends service");
        for (int lowest = 0; lowest < 8; lowest++) {
            TickLines x = Setups.fullService(c);
            x.write(side0(c), 0xC0 | lowest);
            int service = 0xFF;
            for (int i = 1; i <= 8; i++) {
                x.write(side0(c), 0x20 | 8 - i);
                service &= ~(1 << (lowest + i) % 8);
                CHECKS.same("service, LOWEST " + lowest, x.about(c, Setups.SERVICE), service);
                CHECKS.same("LOWEST", x.about(c, Setups.LOWEST), lowest);
            }
        }
    }

    private static void endOfServiceWithoutOne(int c) {
        CHECKS.words("1: the first level in order of priority that holds ends service");
        TickLines x = Setups.both();
        x.write(side0(c), 0xC4);
        String before = Setups.state(x);
        for (int level = 0; level < 8; level++) {
            x.write(side0(c), 0x20 | level);
        }
        CHECKS.text("the state, none in service", Setups.state(x), before);
    }

    private static void endOfServiceOfMasked(int c) {
        CHECKS.words("(in SPECIAL mode only those that are not masked) .. that holds ends service");
        TickLines x = Setups.fullService(c);
        x.write(side1(c), 0x0F);
        x.write(side0(c), 0x68);
        x.write(side0(c), 0x20);
        CHECKS.same("1 passes over the masked", x.about(c, Setups.SERVICE), 0xEF);
        x.write(side0(c), 0xA0);
        CHECKS.same("5 passes over the masked", x.about(c, Setups.SERVICE), 0xCF);
        CHECKS.same("LOWEST", x.about(c, Setups.LOWEST), 5);
        x.write(side1(c), 0xFF);
        x.write(side0(c), 0x20);
        x.write(side0(c), 0xA0);
        CHECKS.same("all are masked", x.about(c, Setups.SERVICE), 0xCF);
        CHECKS.same("LOWEST stays", x.about(c, Setups.LOWEST), 5);
        x.write(side0(c), 0x48);
        x.write(side0(c), 0x20);
        CHECKS.same("not SPECIAL", x.about(c, Setups.SERVICE), 0x8F);
    }

    private static void endOfServiceOfLevel(int c) {
        CHECKS.words("3: level l does");
        for (int level = 0; level < 8; level++) {
            TickLines x = Setups.fullService(c);
            x.write(side0(c), 0x60 | level);
            CHECKS.same("service", x.about(c, Setups.SERVICE), 0xFF & ~(1 << level));
            x.write(side0(c), 0x60 | level);
            CHECKS.same("service, it was not in it", x.about(c, Setups.SERVICE), 0xFF & ~(1 << level));
            CHECKS.same("LOWEST", x.about(c, Setups.LOWEST), 7);
        }
        TickLines x = Setups.fullService(c);
        x.write(side1(c), 0xFF);
        x.write(side0(c), 0x68);
        x.write(side0(c), 0x64);
        CHECKS.same("masked in SPECIAL mode", x.about(c, Setups.SERVICE), 0xEF);
    }

    private static void endOfServiceThatTurns(int c) {
        CHECKS.words("5: as 1, and LOWEST is that level, if there was one");
        TickLines x = Setups.fullService(c);
        int service = 0xFF;
        for (int level = 0; level < 8; level++) {
            x.write(side0(c), 0xA0 | 7 - level);
            service &= ~(1 << level);
            CHECKS.same("service", x.about(c, Setups.SERVICE), service);
            CHECKS.same("LOWEST", x.about(c, Setups.LOWEST), level);
        }
    }

    private static void endOfServiceThatTurnsWithoutOne(int c) {
        CHECKS.words("and LOWEST is that level, if there was one");
        TickLines x = Setups.both();
        for (int lowest = 0; lowest < 8; lowest++) {
            x.write(side0(c), 0xC0 | lowest);
            x.write(side0(c), 0xA0 | 7 - lowest);
            CHECKS.same("LOWEST, none in service", x.about(c, Setups.LOWEST), lowest);
        }
    }

    private static void endOfServiceOfLevelThatTurns(int c) {
        CHECKS.words("7: as 3, and LOWEST is l");
        TickLines x = Setups.fullService(c);
        int service = 0xFF;
        for (int level = 0; level < 8; level++) {
            service &= ~(1 << level);
            for (int twice = 0; twice < 2; twice++) {
                x.write(side0(c), 0xC0 | 7 - level);
                x.write(side0(c), 0xE0 | level);
                CHECKS.same("service", x.about(c, Setups.SERVICE), service);
                CHECKS.same("LOWEST, in service or not", x.about(c, Setups.LOWEST), level);
            }
        }
    }

    private static void lowestAlone(int c) {
        CHECKS.words("6: LOWEST is l");
        TickLines x = Setups.fullService(c);
        for (int level = 0; level < 8; level++) {
            x.write(side0(c), 0xC0 | level);
            CHECKS.same("LOWEST", x.about(c, Setups.LOWEST), level);
            CHECKS.same("service", x.about(c, Setups.SERVICE), 0xFF);
        }
    }

    private static void turnsOrNot(int c) {
        CHECKS.words("4: TURNS, 0: it does not");
        for (int level = 0; level < 8; level++) {
            TickLines x = Setups.bothAuto();
            String before = Setups.state(x);
            x.write(side0(c), 0x80 | level);
            CHECKS.text("the state behind 4", Setups.state(x), before);
            x.line(c, 3, true);
            Setups.poll(x, c);
            CHECKS.same("LOWEST, it turns", x.about(c, Setups.LOWEST), 3);
            x.write(side0(c), level);
            x.line(c, 6, true);
            Setups.poll(x, c);
            CHECKS.same("LOWEST, it does not", x.about(c, Setups.LOWEST), 3);
        }
    }

    private static void commandTwo(int c) {
        CHECKS.words("2: nothing");
        TickLines x = Setups.fullService(c);
        x.write(side0(c), 0xC4);
        String before = Setups.state(x);
        for (int level = 0; level < 8; level++) {
            x.write(side0(c), 0x40 | level);
        }
        CHECKS.text("the state", Setups.state(x), before);
        x = Setups.bothAuto();
        x.write(side0(c), 0x80);
        x.write(side0(c), 0x40);
        x.line(c, 3, true);
        Setups.poll(x, c);
        CHECKS.same("LOWEST, it still turns", x.about(c, Setups.LOWEST), 3);
    }

    private static void specialOnlyWithBitSix(int c) {
        CHECKS.words("if bit 6 is 1, SPECIAL is bit 5");
        TickLines x = Setups.both();
        x.line(c, 4, true);
        Setups.poll(x, c);
        x.write(side1(c), 0x10);
        x.line(c, 6, true);
        x.write(side0(c), 0x28);
        CHECKS.same("bit 5 alone", x.chosen(c), TickLines.NONE);
        x.write(side0(c), 0x68);
        CHECKS.same("bits 6 and 5", x.chosen(c), 6);
        x.write(side0(c), 0x08);
        CHECKS.same("neither", x.chosen(c), 6);
        x.write(side0(c), 0x28);
        CHECKS.same("bit 5 alone", x.chosen(c), 6);
        x.write(side0(c), 0x48);
        CHECKS.same("bit 6 alone", x.chosen(c), TickLines.NONE);
        x.write(side0(c), 0x6C);
        CHECKS.same("with a poll", x.read(side0(c)), 128 + 6);
    }

    private static void pollBeforeWhatIsRead(int c) {
        CHECKS.words("if bit 2 is 1 there is a POLL; else if bit 1 is 1, what is read");
        for (int low = 4; low < 8; low++) {
            TickLines x = Setups.fullService(c);
            x.line(c, 6, true);
            x.write(side0(c), 0x08 | low);
            CHECKS.same("the poll of " + low, x.read(side0(c)), 0);
            CHECKS.same("requests, as before it", x.read(side0(c)), 64);
            x.write(side0(c), 0x0B);
            x.write(side0(c), 0x08 | low);
            CHECKS.same("the poll of " + low, x.read(side0(c)), 0);
            CHECKS.same("service, as before it", x.read(side0(c)), 0xFF);
        }
    }

    private static void whatIsReadOnlyWithBitOne(int c) {
        CHECKS.words("else if bit 1 is 1, what is read is requests (bit 0 is 0) or service (1)");
        TickLines x = Setups.fullService(c);
        x.line(c, 6, true);
        x.write(side0(c), 0x09);
        CHECKS.same("bit 0 alone", x.read(side0(c)), 64);
        x.write(side0(c), 0x0B);
        CHECKS.same("bits 1 and 0", x.read(side0(c)), 0xFF);
        x.write(side0(c), 0x08);
        CHECKS.same("neither", x.read(side0(c)), 0xFF);
        x.write(side0(c), 0x0A);
        CHECKS.same("bit 1 alone", x.read(side0(c)), 64);
    }

    private static void bitThreeIsNoCommand(int c) {
        CHECKS.words("without bit 3, by v >> 5 .. With bit 3");
        TickLines x = Setups.fullService(c);
        String before = Setups.state(x);
        for (int value = 8; value < 256; value += 32) {
            for (int low = 0; low < 8; low++) {
                x.write(side0(c), value | low);
            }
        }
        CHECKS.text("the state", Setups.state(x), before);
    }

    private static void pollOfEachLevel(int c) {
        CHECKS.words("if a level is chosen that is served and the byte is 128 + it");
        for (int level = 0; level < 8; level++) {
            TickLines x = Setups.both();
            Setups.raise(x, c, level);
            CHECKS.same("the byte", Setups.poll(x, c), 128 + level);
            CHECKS.same("latches", x.about(c, Setups.LATCHES), 0);
            CHECKS.same("service", x.about(c, Setups.SERVICE), 1 << level);
        }
    }

    private static void pollInVain(int c) {
        CHECKS.words("else 0");
        TickLines x = Setups.both();
        x.line(c, 1, true);
        Setups.poll(x, c);
        x.line(c, 5, true);
        String before = Setups.state(x);
        CHECKS.same("held back", Setups.poll(x, c), 0);
        CHECKS.text("the state", Setups.state(x), before);
        x = Setups.both();
        before = Setups.state(x);
        CHECKS.same("without a request", Setups.poll(x, c), 0);
        CHECKS.text("the state", Setups.state(x), before);
    }

    private static void pollIsNoMore(int c) {
        CHECKS.words("if there is a poll, it is no more");
        TickLines x = Setups.both();
        Setups.on(x, c, 6);
        x.write(side0(c), 12);
        x.write(side0(c), 12);
        CHECKS.same("MASK is no poll", x.read(side1(c)), 0);
        CHECKS.same("the byte, two polls being one", x.read(side0(c)), 128 + 6);
        Setups.on(x, c, 5);
        CHECKS.same("requests", x.read(side0(c)), 32);
        CHECKS.same("poll", Setups.poll(x, c), 128 + 5);
        CHECKS.same("poll in vain", Setups.poll(x, c), 0);
        Setups.on(x, c, 4);
        CHECKS.same("requests behind a poll in vain", x.read(side0(c)), 16);
    }

    private static void readRequestsAndService(int c) {
        CHECKS.words("without: the requests or the levels in service, as bits");
        TickLines x = Setups.both();
        CHECKS.same("no requests", x.read(side0(c)), 0);
        x.write(side0(c), 0x0B);
        CHECKS.same("no service", x.read(side0(c)), 0);
        x = Setups.fullService(c);
        Setups.raiseAll(x, c);
        CHECKS.same("all requests", x.read(side0(c)), 0xFF);
        x.write(side1(c), 0xFF);
        CHECKS.same("all requests, masked", x.read(side0(c)), 0xFF);
        x.write(side0(c), 0x0B);
        CHECKS.same("all in service", x.read(side0(c)), 0xFF);
        for (int level = 0; level < 8; level++) {
            x.write(side0(c), 0x60 | level);
            CHECKS.same("service", x.read(side0(c)), 0xFF & ~((2 << level) - 1));
        }
    }

    private static void readMask(int c) {
        CHECKS.words("From side 1: MASK");
        TickLines x = new TickLines();
        CHECKS.same("before setting up", x.read(side1(c)), 0);
        Setups.setUp(x, c, 0xF8, -1);
        CHECKS.same("when ready", x.read(side1(c)), 0);
        for (int value : SOME_BYTES) {
            x.write(side1(c), value);
            CHECKS.same("MASK", x.read(side1(c)), value);
        }
        x.write(side0(c), 16);
        CHECKS.same("while setting up", x.read(side1(c)), 0);
    }
}
