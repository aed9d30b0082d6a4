/**
 * Two interrupt controllers, one behind the other, and a timer of three counters, all ruled by
 * bytes that are written to ports.
 */
public final class TickLines {
    public static final int NONE = -1;

    private static final int BYTE = 0xFF;
    private static final int FIRST_COUNTER_PORT = 4;
    private static final int CONTROL_PORT = 7;
    private static final int CONTROLLERS = 2;
    private static final int COUNTERS = 3;
    private static final int LEVELS = 8;
    private static final int MOST_TICKS = 100;
    private static final int TIMER_LINE = 0;
    private static final int CASCADE_LINE = 2;

    private final Controller leader;
    private final Controller follower;
    private final Counter[] counters;

    public TickLines() {
        leader = new Controller(true);
        follower = new Controller(false);
        counters = new Counter[] {new Counter(), new Counter(), new Counter()};
    }

    public void write(int port, int value) throws IllegalArgumentException, IllegalStateException {
        if (!isPort(port) || value < 0 || value > BYTE) {
            throw new IllegalArgumentException();
        }
        if (isCounterPort(port)) {
            counterWithMode(port).takeByte(value);
        } else if (port == CONTROL_PORT) {
            takeControl(value);
        } else if ((port & 1) == 0) {
            controllerOf(port >> 1).takeSideZero(value);
        } else {
            controllerOf(port >> 1).takeSideOne(value);
        }
        followLines();
    }

    public int read(int port) throws IllegalArgumentException, IllegalStateException {
        if (!isPort(port) || port == CONTROL_PORT) {
            throw new IllegalArgumentException();
        }
        int answer;
        if (isCounterPort(port)) {
            answer = counterWithMode(port).giveByte();
        } else if ((port & 1) == 0) {
            answer = controllerOf(port >> 1).giveSideZero();
        } else {
            answer = controllerOf(port >> 1).mask;
        }
        followLines();
        return answer;
    }

    public boolean line(int controller, int line, boolean on) {
        if (!isController(controller) || line < 0 || line >= LEVELS) {
            return false;
        }
        if (controller == 0 && (line == TIMER_LINE || line == CASCADE_LINE)) {
            return false;
        }
        controllerOf(controller).setLine(line, on);
        followLines();
        return true;
    }

    public boolean gate(int counter, boolean on) {
        if (!isCounter(counter)) {
            return false;
        }
        counters[counter].setGate(on);
        followLines();
        return true;
    }

    public int tick(int n) throws IllegalArgumentException {
        if (n < 0 || n > MOST_TICKS) {
            throw new IllegalArgumentException();
        }
        int cameOn = 0;
        for (int i = 0; i < n; i++) {
            boolean before = counters[0].output;
            for (int j = 0; j < COUNTERS; j++) {
                counters[j].step();
            }
            if (!before && counters[0].output) {
                cameOn++;
            }
            followLines();
        }
        return cameOn;
    }

    public int acknowledge() throws IllegalStateException {
        if (!leader.ready) {
            throw new IllegalStateException();
        }
        int level = leader.serveChosen();
        int vector;
        if (level == CASCADE_LINE && !leader.single) {
            vector = follower.vectorOf(follower.serveChosen());
        } else {
            vector = leader.vectorOf(level);
        }
        followLines();
        return vector;
    }

    public int chosen(int controller) {
        return isController(controller) ? controllerOf(controller).chosenLevel() : NONE;
    }

    public int about(int controller, int what) {
        return isController(controller) ? controllerOf(controller).tell(what) : NONE;
    }

    public int counter(int counter, int what) {
        return isCounter(counter) ? counters[counter].tell(what) : NONE;
    }

    private static boolean isPort(int port) {
        return port >= 0 && port <= CONTROL_PORT;
    }

    private static boolean isCounterPort(int port) {
        return isCounter(port - FIRST_COUNTER_PORT);
    }

    private static boolean isController(int controller) {
        return controller >= 0 && controller < CONTROLLERS;
    }

    private static boolean isCounter(int counter) {
        return counter >= 0 && counter < COUNTERS;
    }

    private static int asBit(boolean on) {
        return on ? 1 : 0;
    }

    private static boolean hasBit(int bits, int index) {
        return (bits >> index & 1) != 0;
    }

    private Controller controllerOf(int controller) {
        return controller == 0 ? leader : follower;
    }

    private Counter counterWithMode(int port) {
        Counter found = counters[port - FIRST_COUNTER_PORT];
        if (!found.hasMode()) {
            throw new IllegalStateException();
        }
        return found;
    }

    private void takeControl(int value) {
        int which = value >> 6;
        int access = value >> 4 & 3;
        if (!isCounter(which)) {
            latchMany(value);
        } else if (access == 0) {
            counters[which].latchCount();
        } else {
            counters[which].setMode(access, value >> 1 & 7);
        }
    }

    private void latchMany(int value) {
        for (int j = 0; j < COUNTERS; j++) {
            if (hasBit(value, 1 + j)) {
                if (!hasBit(value, 5)) {
                    counters[j].latchCount();
                }
                if (!hasBit(value, 4)) {
                    counters[j].latchStatus();
                }
            }
        }
    }

    private void followLines() {
        leader.setLine(TIMER_LINE, counters[0].output);
        leader.setLine(CASCADE_LINE, follower.chosenLevel() != NONE);
    }

    /** One interrupt controller. */
    private static final class Controller {
        private static final int LEVEL_BITS = 7;
        private static final int POLLED = 128;
        private static final int SECOND = 2;
        private static final int THIRD = 3;
        private static final int FOURTH = 4;

        private final boolean leads;
        private int lines;
        private int latches;
        private int mask;
        private int service;
        private int base;
        private int lowest;
        private boolean ready;
        /** The number of the byte that setting up waits for; 0 if it waits for none. */
        private int awaited;
        private boolean levelMode;
        private boolean single;
        private boolean fourthComes;
        private boolean auto;
        private boolean nested;
        private boolean special;
        private boolean turns;
        private boolean serviceIsRead;
        private boolean polled;

        Controller(boolean leads) {
            this.leads = leads;
            lowest = LEVELS - 1;
        }

        void setLine(int line, boolean on) {
            int bit = 1 << line;
            if (on) {
                latches |= bit & ~lines;
                lines |= bit;
            } else {
                lines &= ~bit;
            }
        }

        int chosenLevel() {
            if (!ready) {
                return NONE;
            }
            int wanted = requests() & ~mask;
            int holding = holdingLevels();
            for (int i = 1; i <= LEVELS; i++) {
                int level = lowest + i & LEVEL_BITS;
                boolean holds = hasBit(holding, level);
                if (hasBit(wanted, level)) {
                    return holds && !mayNest(level) ? NONE : level;
                }
                if (holds) {
                    return NONE;
                }
            }
            return NONE;
        }

        /** Serves the chosen level, if there is one, and tells which it was. */
        int serveChosen() {
            int level = chosenLevel();
            if (level != NONE) {
                serve(level);
            }
            return level;
        }

        int vectorOf(int level) {
            return base + (level == NONE ? LEVELS - 1 : level);
        }

        void takeSideZero(int value) {
            if (hasBit(value, 4)) {
                beginSettingUp(value);
            } else if (ready && hasBit(value, 3)) {
                takeReadingCommand(value);
            } else if (ready) {
                takeServiceCommand(value >> 5, value & LEVEL_BITS);
            }
        }

        void takeSideOne(int value) {
            if (ready) {
                mask = value;
            } else if (awaited == SECOND) {
                base = value & ~LEVEL_BITS;
                awaitFrom(single ? FOURTH : THIRD);
            } else if (awaited == THIRD) {
                awaitFrom(FOURTH);
            } else if (awaited == FOURTH) {
                auto = hasBit(value, 1);
                nested = hasBit(value, 4);
                becomeReady();
            }
        }

        int giveSideZero() {
            if (polled) {
                polled = false;
                int level = serveChosen();
                return level == NONE ? 0 : POLLED + level;
            }
            return serviceIsRead ? service : requests();
        }

        int tell(int what) {
            switch (what) {
                case 0: return requests();
                case 1: return service;
                case 2: return mask;
                case 3: return lowest;
                case 4: return base;
                case 5: return lines;
                case 6: return latches;
                case 7: return asBit(ready);
                default: return NONE;
            }
        }

        private int requests() {
            return levelMode ? lines : lines & latches;
        }

        private int holdingLevels() {
            return special ? service & ~mask : service;
        }

        private boolean mayNest(int level) {
            return nested && leads && level == CASCADE_LINE;
        }

        private void serve(int level) {
            latches &= ~(1 << level);
            if (!auto) {
                service |= 1 << level;
            } else if (turns) {
                lowest = level;
            }
        }

        private void beginSettingUp(int value) {
            ready = false;
            awaited = SECOND;
            latches = 0;
            mask = 0;
            service = 0;
            lowest = LEVELS - 1;
            auto = false;
            nested = false;
            special = false;
            turns = false;
            serviceIsRead = false;
            polled = false;
            levelMode = hasBit(value, 3);
            single = hasBit(value, 1);
            fourthComes = hasBit(value, 0);
        }

        private void awaitFrom(int number) {
            if (number == FOURTH && !fourthComes) {
                becomeReady();
            } else {
                awaited = number;
            }
        }

        private void becomeReady() {
            awaited = 0;
            ready = true;
        }

        private void takeServiceCommand(int command, int level) {
            switch (command) {
                case 0: turns = false; break;
                case 1: endService(firstHolding()); break;
                case 3: endService(level); break;
                case 4: turns = true; break;
                case 5: endServiceAndTurn(firstHolding()); break;
                case 6: lowest = level; break;
                case 7: endServiceAndTurn(level); break;
                default: break;
            }
        }

        private void takeReadingCommand(int value) {
            if (hasBit(value, 6)) {
                special = hasBit(value, 5);
            }
            if (hasBit(value, 2)) {
                polled = true;
            } else if (hasBit(value, 1)) {
                serviceIsRead = hasBit(value, 0);
            }
        }

        private int firstHolding() {
            int holding = holdingLevels();
            for (int i = 1; i <= LEVELS; i++) {
                int level = lowest + i & LEVEL_BITS;
                if (hasBit(holding, level)) {
                    return level;
                }
            }
            return NONE;
        }

        private void endService(int level) {
            if (level != NONE) {
                service &= ~(1 << level);
            }
        }

        private void endServiceAndTurn(int level) {
            endService(level);
            if (level != NONE) {
                lowest = level;
            }
        }
    }

    /** One counter of the timer. */
    private static final class Counter {
        private static final int COUNT_BITS = 0xFFFF;
        private static final int LARGEST_RELOAD = 0x10000;
        private static final int LOW_BYTE = 1;
        private static final int HIGH_BYTE = 2;
        private static final int BOTH_BYTES = 3;

        private boolean gateIsOn;
        private boolean output;
        private int mode;
        private int access;
        /** 0 while the counter is empty. */
        private int reload;
        private int count;
        private boolean runs;
        private boolean toBeLoaded;
        /** The count has not taken over what was written last. */
        private boolean pending;
        private int lowWritten;
        private boolean highIsWrittenNext;
        private boolean highIsReadNext;
        private int latchedCount;
        private int latchedStatus;

        Counter() {
            gateIsOn = true;
            mode = NONE;
            latchedCount = NONE;
            latchedStatus = NONE;
        }

        boolean hasMode() {
            return mode != NONE;
        }

        void setMode(int newAccess, int number) {
            access = newAccess;
            mode = number > 5 ? number - 4 : number;
            reload = 0;
            runs = false;
            toBeLoaded = false;
            pending = true;
            highIsWrittenNext = false;
            highIsReadNext = false;
            latchedCount = NONE;
            latchedStatus = NONE;
            output = mode != 0;
        }

        void latchCount() {
            if (hasMode() && latchedCount == NONE) {
                latchedCount = count;
            }
        }

        void latchStatus() {
            if (hasMode() && latchedStatus == NONE) {
                latchedStatus = 128 * asBit(output) + 64 * asBit(pending) + 16 * access + 2 * mode;
            }
        }

        void takeByte(int value) {
            if (access == LOW_BYTE) {
                takeReload(value);
            } else if (access == HIGH_BYTE) {
                takeReload(value << 8);
            } else if (highIsWrittenNext) {
                highIsWrittenNext = false;
                takeReload(value << 8 | lowWritten);
            } else {
                highIsWrittenNext = true;
                lowWritten = value;
            }
        }

        int giveByte() {
            if (latchedStatus != NONE) {
                int status = latchedStatus;
                latchedStatus = NONE;
                return status;
            }
            int shown = latchedCount != NONE ? latchedCount : count;
            boolean high = access == HIGH_BYTE || highIsReadNext;
            if (access == BOTH_BYTES) {
                highIsReadNext = !high;
            }
            if (high || access == LOW_BYTE) {
                latchedCount = NONE;
            }
            return high ? shown >> 8 : shown & BYTE;
        }

        void setGate(boolean on) {
            boolean comesOn = on && !gateIsOn;
            boolean goesOff = !on && gateIsOn;
            gateIsOn = on;
            if (comesOn && !isEmpty() && gateLoads()) {
                toBeLoaded = true;
            }
            if (goesOff && isPeriodic()) {
                output = true;
            }
        }

        void step() {
            if (isEmpty() || standsBetweenBytes()) {
                return;
            }
            if (toBeLoaded) {
                load();
            } else if (runs && (gateIsOn || !gateHoldsBack())) {
                countDown();
            }
        }

        int tell(int what) {
            switch (what) {
                case 0: return count;
                case 1: return asBit(output);
                case 2: return asBit(gateIsOn);
                case 3: return mode;
                case 4: return reload;
                case 5: return asBit(runs);
                case 6: return asBit(toBeLoaded);
                default: return NONE;
            }
        }

        private boolean isEmpty() {
            return reload == 0;
        }

        private boolean standsBetweenBytes() {
            return mode == 0 && highIsWrittenNext;
        }

        private boolean isPeriodic() {
            return mode == 2 || mode == 3;
        }

        private boolean gateLoads() {
            return mode == 1 || mode == 5 || isPeriodic();
        }

        private boolean gateHoldsBack() {
            return mode != 1 && mode != 5;
        }

        private void takeReload(int value) {
            boolean wasEmpty = isEmpty();
            reload = value == 0 ? LARGEST_RELOAD : value;
            pending = true;
            if (mode == 0 || mode == 4 || isPeriodic() && wasEmpty) {
                toBeLoaded = true;
            }
            if (mode == 0) {
                output = false;
            }
        }

        private void load() {
            toBeLoaded = false;
            runs = true;
            if (mode == 1) {
                output = false;
            } else if (isPeriodic()) {
                output = true;
            }
            setCount(mode == 3 ? 2 * partTicks() : reload);
        }

        /** The ticks of the part that the output shows in mode 3. */
        private int partTicks() {
            return output ? (reload + 1) / 2 : reload / 2;
        }

        private void setCount(int value) {
            count = value & COUNT_BITS;
            pending = false;
        }

        private void countDown() {
            switch (mode) {
                case 2: stepRate(); break;
                case 3: stepSquare(); break;
                case 4:
                case 5: stepStrobe(); break;
                default: stepOnce(); break;
            }
        }

        private void lessen(int by) {
            count = count - by & COUNT_BITS;
        }

        private void stepOnce() {
            lessen(1);
            if (count == 0) {
                output = true;
            }
        }

        private void stepRate() {
            if (count == 1) {
                setCount(reload);
                output = true;
            } else {
                lessen(1);
            }
            // A RELOAD of 1 is back at 1 at once, so its output stays off.
            if (count == 1) {
                output = false;
            }
        }

        private void stepSquare() {
            lessen(2);
            if (count == 0) {
                output = !output;
                // Only the off part can be empty: the on part begins again in the same tick.
                if (partTicks() == 0) {
                    output = !output;
                }
                setCount(2 * partTicks());
            }
        }

        private void stepStrobe() {
            lessen(1);
            output = count != 0;
        }
    }
}
