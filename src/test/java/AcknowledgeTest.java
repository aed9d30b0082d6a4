/** Promise 7. */
public final class AcknowledgeTest {
    private static final Checks CHECKS = new Checks();

    public static void main(String[] args) {
        notReady();
        ordinary();
        inVain();
        behindTheOther();
        single();
        otherNotReady();
        auto();
        turnsWithoutAuto();
        CHECKS.end();
    }

    private static void notReady() {
        TickLines x = new TickLines();
        CHECKS.badState("before setting up", x::acknowledge);
        Setups.setUp(x, 1, 40, -1);
        CHECKS.badState("only controller 1 is ready", x::acknowledge);
        x.write(0, 17);
        CHECKS.badState("behind the first byte", x::acknowledge);
        x.write(1, 32);
        x.write(1, 4);
        CHECKS.badState("before the last byte", x::acknowledge);
        x.write(1, 0);
        CHECKS.same("ready", x.acknowledge(), 39);
        x.write(0, 16);
        CHECKS.badState("setting up again", x::acknowledge);
    }

    private static void ordinary() {
        for (int level : new int[] {1, 3, 4, 5, 6, 7}) {
            TickLines x = Setups.both();
            x.line(0, level, true);
            CHECKS.same("vector", x.acknowledge(), 32 + level);
            CHECKS.same("service", x.about(0, Setups.SERVICE), 1 << level);
            CHECKS.same("latches", x.about(0, Setups.LATCHES), 0);
            CHECKS.same("its own level holds", x.acknowledge(), 39);
            CHECKS.same("LOWEST", x.about(0, Setups.LOWEST), 7);
        }
        TickLines x = new TickLines();
        Setups.setUp(x, 0, 255, -1);
        Setups.on(x, 0, 6);
        CHECKS.same("the largest BASE", x.acknowledge(), 248 + 6);
        Setups.on(x, 0, 4);
        x.write(0, 12);
        CHECKS.same("a poll does not hinder", x.acknowledge(), 248 + 4);
        CHECKS.same("and stays", x.read(0), 0);
    }

    private static void inVain() {
        TickLines x = Setups.both();
        CHECKS.same("vector", x.acknowledge(), 39);
        CHECKS.same("nothing is in service", x.about(0, Setups.SERVICE), 0);
        x.line(0, 4, true);
        x.line(0, 4, false);
        CHECKS.same("the line went off", x.acknowledge(), 39);
        CHECKS.same("its latch stays", x.about(0, Setups.LATCHES), 16);
        x.line(0, 7, true);
        CHECKS.same("level 7 in earnest", x.acknowledge(), 39);
        CHECKS.same("is in service", x.about(0, Setups.SERVICE), 128);
    }

    private static void behindTheOther() {
        for (int level = 0; level < 8; level++) {
            TickLines x = Setups.both();
            x.line(1, level, true);
            CHECKS.same("vector", x.acknowledge(), 40 + level);
            CHECKS.same("service of 0", x.about(0, Setups.SERVICE), 4);
            CHECKS.same("service of 1", x.about(1, Setups.SERVICE), 1 << level);
            CHECKS.same("latches of 0", x.about(0, Setups.LATCHES), 0);
            CHECKS.same("latches of 1", x.about(1, Setups.LATCHES), 0);
            CHECKS.same("line 2 is off behind it", x.about(0, Setups.LINES), 0);
        }
        TickLines x = Setups.both();
        Setups.on(x, 1, 3);
        Setups.on(x, 0, 1);
        CHECKS.same("level 1 goes first", x.acknowledge(), 33);
        CHECKS.same("controller 1 was not served", x.about(1, Setups.SERVICE), 0);
        x.write(0, 0x20);
        CHECKS.same("then level 2", x.acknowledge(), 43);
    }

    private static void single() {
        TickLines x = new TickLines();
        x.write(0, 18);
        x.write(1, 32);
        Setups.setUp(x, 1, 40, -1);
        Setups.on(x, 1, 3);
        CHECKS.same("vector of a SINGLE one", x.acknowledge(), 34);
        CHECKS.same("service", x.about(0, Setups.SERVICE), 4);
        CHECKS.same("controller 1 is not served", x.about(1, Setups.SERVICE), 0);
        CHECKS.same("it calls on", x.about(0, Setups.LINES), 4);
    }

    private static void otherNotReady() {
        TickLines x = new TickLines();
        Setups.setUp(x, 0, 32, -1);
        Setups.on(x, 1, 3);
        CHECKS.same("it does not call", x.acknowledge(), 39);
        CHECKS.same("its latch stays", x.about(1, Setups.LATCHES), 8);
        CHECKS.same("nothing is in service", x.about(0, Setups.SERVICE), 0);
    }

    private static void auto() {
        TickLines x = new TickLines();
        Setups.setUp(x, 0, 32, 2);
        Setups.setUp(x, 1, 40, 2);
        Setups.on(x, 0, 5, 3);
        CHECKS.same("vector", x.acknowledge(), 35);
        CHECKS.same("no service", x.about(0, Setups.SERVICE), 0);
        CHECKS.same("it does not turn", x.about(0, Setups.LOWEST), 7);
        x.write(0, 0x80);
        CHECKS.same("vector", x.acknowledge(), 37);
        CHECKS.same("it turns", x.about(0, Setups.LOWEST), 5);
        CHECKS.same("none", x.acknowledge(), 39);
        CHECKS.same("and stays so", x.about(0, Setups.LOWEST), 5);
        x.write(0, 0x00);
        Setups.on(x, 0, 6);
        CHECKS.same("vector", x.acknowledge(), 38);
        CHECKS.same("it turns no more", x.about(0, Setups.LOWEST), 5);
        x.write(2, 0x80);
        Setups.on(x, 1, 1);
        CHECKS.same("vector of controller 1", x.acknowledge(), 41);
        CHECKS.same("which turns", x.about(1, Setups.LOWEST), 1);
        CHECKS.same("without service", x.about(1, Setups.SERVICE), 0);
        CHECKS.same("controller 0 does not", x.about(0, Setups.LOWEST), 5);
    }

    private static void turnsWithoutAuto() {
        TickLines x = new TickLines();
        Setups.setUp(x, 0, 32, 0xED);
        x.write(0, 0x80);
        Setups.on(x, 0, 5);
        CHECKS.same("vector", x.acknowledge(), 37);
        CHECKS.same("LOWEST", x.about(0, Setups.LOWEST), 7);
        CHECKS.same("service", x.about(0, Setups.SERVICE), 32);
    }
}
