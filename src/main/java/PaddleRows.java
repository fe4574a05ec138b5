/** A wave maker: a tank of cells, paddles that push by recipes, a beach, and gauges. */
public final class PaddleRows {
    public static final int NO_SUCH = -1, BAD_VALUE = -2, BAD_TEXT = -3, TOO_MANY = -4, NOT_POSSIBLE = -5, NONE = -6;
    public static final int BEACH = 0, LOSS = 1, HARD = 2;
    public static final int FLAT = 0, SAW = 1, BOX = 2, TENT = 3;

    private static final int CELLS = 40, PADDLE_CELLS = 36;
    private static final int MOST_PADDLES = 6, MOST_GAUGES = 4, MOST_NOTES = 60;
    private static final int SETTINGS = 3, SORTS = 4;
    private static final int MOST_HEIGHT = 999, MOST_PERIOD = 60, PHASES = 60;
    private static final int FARTHEST = 9999;
    private static final int MOST_STEPS = 99999, MOST_PASS = 99, MOST_FORESEEN = 500;
    private static final int MOST_SIGNS = 80, SIGNS_AT_ONCE = 8, LEAST_SIGN = 33, GREATEST_SIGN = 126;
    private static final int MOST_DIGITS = 3;
    private static final int MOST_UNDONE = 6, SLOTS = 2;
    private static final int CREST = 0, TROUGH = 1, UNEVEN = 2, PADDLE = 3, STOPPED = 4, PLACES = 5;
    // What is added to an answer that may be below 0, so that it is not taken for an error.
    private static final int ABOVE_LEVELS = 10000, ABOVE_HEIGHTS = 1000, ABOVE_SUMS = 1000000;

    private static final int[] FIRST_SETTINGS = {80, 2, 500};
    private static final int[] LEAST_SETTINGS = {0, 0, 1};
    private static final int[] GREATEST_SETTINGS = {100, 50, 9999};

    private final Tank tank = new Tank();
    private final Pad pad = new Pad();
    private final History history = new History();
    private final Tank[] slots = new Tank[SLOTS];
    private final boolean[] slotFilled = new boolean[SLOTS];
    // Kept beside the tank, so that no call has to make a tank of its own.
    private final Tank before = new Tank();
    private final Tank trial = new Tank();

    /** Creates a tank at rest. */
    public PaddleRows() {
        for (int slot = 0; slot < SLOTS; slot++) {
            slots[slot] = new Tank();
        }
    }

    // ---- changes

    public int set(int setting, int value) {
        before.copyFrom(tank);
        return recorded(tank.changeSetting(setting, value));
    }

    public int paddle(int cell, int sort, int height, int period, int phase) {
        before.copyFrom(tank);
        return recorded(tank.placePaddle(cell, sort, height, period, phase));
    }

    public int lift(int cell) {
        before.copyFrom(tank);
        return recorded(tank.removePaddle(cell));
    }

    public int again(int cell) {
        before.copyFrom(tank);
        return recorded(tank.startPaddle(cell));
    }

    public int gauge(int cell) {
        before.copyFrom(tank);
        return recorded(tank.placeGauge(cell));
    }

    public int level(int cell, int level) {
        before.copyFrom(tank);
        return recorded(tank.changeLevel(cell, level));
    }

    public int pass(int steps) {
        before.copyFrom(tank);
        return recorded(tank.passSteps(steps));
    }

    /** Takes a change's answer: only a change that went well is put into the history. */
    private int recorded(int answer) {
        if (answer >= 0) {
            history.push(before);
        }
        return answer;
    }

    // ---- what there is

    public int cell(int cell, int what) {
        if (isOutside(cell, CELLS)) {
            return NO_SUCH;
        }
        switch (what) {
            case 0:
                return tank.levels[cell] + ABOVE_LEVELS;
            case 1:
                return tank.speeds[cell] + ABOVE_LEVELS;
            case 2:
                return asNumber(tank.isCrest(cell));
            case 3:
                return asNumber(tank.isTrough(cell));
            default:
                return BAD_VALUE;
        }
    }

    public int ofPaddle(int rank, int what) {
        if (isOutside(rank, tank.paddleCount)) {
            return NO_SUCH;
        }
        Paddle paddle = tank.paddles[rank];
        switch (what) {
            case 0:
                return paddle.cell;
            case 1:
                return paddle.sort;
            case 2:
                return paddle.height + ABOVE_HEIGHTS;
            case 3:
                return paddle.period;
            case 4:
                return paddle.phase;
            case 5:
                return asNumber(paddle.goes);
            case 6:
                return paddle.pushAt(tank.steps) + ABOVE_HEIGHTS;
            default:
                return BAD_VALUE;
        }
    }

    public int ofGauge(int gauge, int what) {
        if (isOutside(gauge, tank.gaugeCount)) {
            return NO_SUCH;
        }
        Gauge asked = tank.gauges[gauge];
        switch (what) {
            case 0:
                return asked.cell;
            case 1:
                return asked.known;
            case 2:
                return asked.known == 0 ? NONE : asked.greatest() + ABOVE_LEVELS;
            case 3:
                return asked.known == 0 ? NONE : asked.least() + ABOVE_LEVELS;
            case 4:
                return asked.rises();
            default:
                return BAD_VALUE;
        }
    }

    public int noted(int gauge, int ago) {
        if (isOutside(gauge, tank.gaugeCount)) {
            return NO_SUCH;
        }
        Gauge asked = tank.gauges[gauge];
        if (isOutside(ago, asked.known)) {
            return NO_SUCH;
        }
        return asked.levelAgo(ago) + ABOVE_LEVELS;
    }

    public long places(int what) {
        return isOutside(what, PLACES) ? BAD_VALUE : tank.cellsThatAre(what);
    }

    public int count(int what) {
        switch (what) {
            case 0:
                return tank.steps;
            case 1:
                return tank.paddleCount;
            case 2:
                return Long.bitCount(tank.cellsThatAre(STOPPED));
            case 3:
                return tank.gaugeCount;
            case 4:
                return tank.sumOfLevels() + ABOVE_SUMS;
            case 5:
                return tank.motion();
            case 6:
                return tank.farthestLevel();
            case 7:
                return tank.lastUnevenCell();
            case 8:
            case 9:
            case 10:
                return tank.settings[what - 8];
            case 11:
                return pad.length;
            case 12:
                return history.size;
            default:
                return BAD_VALUE;
        }
    }

    // ---- what if

    public int reaches(int cell, int far) {
        if (isOutside(cell, CELLS)) {
            return NO_SUCH;
        }
        if (far < 1 || far > FARTHEST) {
            return BAD_VALUE;
        }
        trial.copyFrom(tank);
        for (int passed = 0; passed <= MOST_FORESEEN; passed++) {
            if (Math.abs(trial.levels[cell]) >= far) {
                return passed;
            }
            trial.step();
        }
        return NONE;
    }

    public int bestPeriod(int rank, int cell, int steps, int what) {
        if (isOutside(rank, tank.paddleCount) || isOutside(cell, CELLS)) {
            return NO_SUCH;
        }
        if (steps < 1 || steps > MOST_PASS || isOutside(what, 2)) {
            return BAD_VALUE;
        }
        int best = 0;
        int greatest = -1;
        for (int period = 1; period <= MOST_PERIOD; period++) {
            int peak = peakWithPeriod(rank, period, cell, steps);
            if (peak > greatest) {
                greatest = peak;
                best = period;
            }
        }
        return what == 0 ? best : greatest;
    }

    private int peakWithPeriod(int rank, int period, int cell, int steps) {
        trial.copyFrom(tank);
        trial.paddles[rank].period = period;
        int peak = 0;
        for (int passed = 0; passed < steps; passed++) {
            trial.step();
            peak = Math.max(peak, Math.abs(trial.levels[cell]));
        }
        return peak;
    }

    public int calmIn() {
        trial.copyFrom(tank);
        trial.paddleCount = 0;
        for (int passed = 0; passed <= MOST_FORESEEN; passed++) {
            if (trial.isCalm()) {
                return passed;
            }
            trial.step();
        }
        return NONE;
    }

    // ---- texts

    public int put(long characters) {
        return pad.append(characters);
    }

    public int wipe() {
        int had = pad.length;
        pad.length = 0;
        return had;
    }

    public int fault() {
        return pad.findFault();
    }

    public int carryOut() {
        if (pad.findFault() != NONE) {
            return BAD_TEXT;
        }
        before.copyFrom(tank);
        int carried = carryOrders();
        pad.length = 0;
        return recorded(carried);
    }

    /** Carries out the orders of a pad without a fault, up to the first one that fails. */
    private int carryOrders() {
        int carried = 0;
        pad.at = 0;
        while (carried < MOST_SIGNS && pad.readOrder() && carryOneOrder() >= 0) {
            carried++;
            if (!pad.accept(';')) {
                break;
            }
        }
        return carried;
    }

    private int carryOneOrder() {
        switch (pad.kind) {
            case 'p':
                return tank.placePaddle(pad.target, pad.sort, pad.value, pad.period, pad.phase);
            case 'x':
                return tank.removePaddle(pad.target);
            case 'g':
                return tank.placeGauge(pad.target);
            case 't':
                return tank.passSteps(pad.target);
            default:
                return tank.changeLevel(pad.target, pad.value);
        }
    }

    // ---- undo, saving

    public int undo() {
        if (history.size == 0) {
            return NOT_POSSIBLE;
        }
        history.popInto(tank);
        return history.size;
    }

    public int save(int slot) {
        if (isOutside(slot, SLOTS)) {
            return BAD_VALUE;
        }
        slots[slot].copyFrom(tank);
        slotFilled[slot] = true;
        return tank.paddleCount;
    }

    public int restore(int slot) {
        if (isOutside(slot, SLOTS)) {
            return BAD_VALUE;
        }
        if (!slotFilled[slot]) {
            return NOT_POSSIBLE;
        }
        history.push(tank);
        tank.copyFrom(slots[slot]);
        return tank.paddleCount;
    }

    // ---- shared by all

    private static boolean isOutside(int number, int end) {
        return number < 0 || number >= end;
    }

    private static int asNumber(boolean holds) {
        return holds ? 1 : 0;
    }

    private static int withinBounds(int number) {
        return Math.max(-FARTHEST, Math.min(FARTHEST, number));
    }

    /** A paddle in a cell, with its recipe. */
    private static final class Paddle {
        int cell;
        int sort;
        int height;
        int period = 1;
        int phase;
        boolean goes;

        void copyFrom(Paddle other) {
            cell = other.cell;
            sort = other.sort;
            height = other.height;
            period = other.period;
            phase = other.phase;
            goes = other.goes;
        }

        static boolean isRecipe(int sort, int height, int period, int phase) {
            return !isOutside(sort, SORTS) && height >= -MOST_HEIGHT && height <= MOST_HEIGHT
                && period >= 1 && period <= MOST_PERIOD && !isOutside(phase, PHASES);
        }

        int pushAt(int steps) {
            if (period < 1) {
                return 0;
            }
            int t = (steps + phase) % period;
            switch (sort) {
                case SAW:
                    return height * (2 * t - period) / period;
                case BOX:
                    return 2 * t < period ? height : -height;
                case TENT:
                    return height * (4 * Math.min(t, period - t) - period) / period;
                default:
                    return height;
            }
        }
    }

    /** A gauge in a cell; its notes are a ring, so that a note moves no other. */
    private static final class Gauge {
        final int[] notes = new int[MOST_NOTES];
        int cell;
        int known;
        int next;

        void copyFrom(Gauge other) {
            System.arraycopy(other.notes, 0, notes, 0, MOST_NOTES);
            cell = other.cell;
            known = other.known;
            next = other.next;
        }

        void startIn(int newCell) {
            cell = newCell;
            known = 0;
            next = 0;
        }

        void note(int level) {
            notes[next] = level;
            next = (next + 1) % MOST_NOTES;
            known = Math.min(known + 1, MOST_NOTES);
        }

        int levelAgo(int ago) {
            return notes[Math.floorMod(next - 1 - ago, MOST_NOTES)];
        }

        int greatest() {
            int greatest = -FARTHEST;
            for (int ago = 0; ago < known; ago++) {
                greatest = Math.max(greatest, levelAgo(ago));
            }
            return greatest;
        }

        int least() {
            int least = FARTHEST;
            for (int ago = 0; ago < known; ago++) {
                least = Math.min(least, levelAgo(ago));
            }
            return least;
        }

        int rises() {
            int rises = 0;
            for (int ago = 0; ago + 1 < known; ago++) {
                if (levelAgo(ago) >= 0 && levelAgo(ago + 1) < 0) {
                    rises++;
                }
            }
            return rises;
        }
    }

    /** All that is undone and saved: the settings, the water, the paddles and the gauges. */
    private static final class Tank {
        final int[] settings = FIRST_SETTINGS.clone();
        final int[] levels = new int[CELLS];
        final int[] speeds = new int[CELLS];
        // In the order of their cells; those from paddleCount on are spare.
        final Paddle[] paddles = new Paddle[MOST_PADDLES];
        final Gauge[] gauges = new Gauge[MOST_GAUGES];
        int paddleCount;
        int gaugeCount;
        int steps;

        Tank() {
            for (int rank = 0; rank < MOST_PADDLES; rank++) {
                paddles[rank] = new Paddle();
            }
            for (int gauge = 0; gauge < MOST_GAUGES; gauge++) {
                gauges[gauge] = new Gauge();
            }
        }

        void copyFrom(Tank other) {
            System.arraycopy(other.settings, 0, settings, 0, SETTINGS);
            System.arraycopy(other.levels, 0, levels, 0, CELLS);
            System.arraycopy(other.speeds, 0, speeds, 0, CELLS);
            paddleCount = other.paddleCount;
            for (int rank = 0; rank < paddleCount; rank++) {
                paddles[rank].copyFrom(other.paddles[rank]);
            }
            gaugeCount = other.gaugeCount;
            for (int gauge = 0; gauge < gaugeCount; gauge++) {
                gauges[gauge].copyFrom(other.gauges[gauge]);
            }
            steps = other.steps;
        }

        int changeSetting(int setting, int value) {
            if (isOutside(setting, SETTINGS)) {
                return BAD_VALUE;
            }
            if (value < LEAST_SETTINGS[setting] || value > GREATEST_SETTINGS[setting]) {
                return BAD_VALUE;
            }
            int previous = settings[setting];
            settings[setting] = value;
            return previous;
        }

        int placePaddle(int cell, int sort, int height, int period, int phase) {
            if (isOutside(cell, PADDLE_CELLS)) {
                return NO_SUCH;
            }
            if (!Paddle.isRecipe(sort, height, period, phase)) {
                return BAD_VALUE;
            }
            int rank = rankIn(cell);
            if (rank < 0) {
                rank = openRank(cell);
            }
            if (rank < 0) {
                return TOO_MANY;
            }
            Paddle paddle = paddles[rank];
            paddle.cell = cell;
            paddle.sort = sort;
            paddle.height = height;
            paddle.period = period;
            paddle.phase = phase;
            paddle.goes = true;
            return paddleCount;
        }

        /** The rank of the paddle in a cell, NO_SUCH if there is none. */
        int rankIn(int cell) {
            for (int rank = 0; rank < paddleCount; rank++) {
                if (paddles[rank].cell == cell) {
                    return rank;
                }
            }
            return NO_SUCH;
        }

        /** Moves a spare paddle to the rank that a new one in a cell has, TOO_MANY if none is spare. */
        int openRank(int cell) {
            if (paddleCount >= MOST_PADDLES) {
                return TOO_MANY;
            }
            Paddle spare = paddles[paddleCount];
            int rank = paddleCount;
            while (rank > 0 && paddles[rank - 1].cell > cell) {
                paddles[rank] = paddles[rank - 1];
                rank--;
            }
            paddles[rank] = spare;
            paddleCount++;
            return rank;
        }

        int removePaddle(int cell) {
            int rank = rankIn(cell);
            if (rank < 0) {
                return NO_SUCH;
            }
            Paddle spare = paddles[rank];
            paddleCount--;
            for (int moved = rank; moved < paddleCount; moved++) {
                paddles[moved] = paddles[moved + 1];
            }
            paddles[paddleCount] = spare;
            return paddleCount;
        }

        int startPaddle(int cell) {
            int rank = rankIn(cell);
            if (rank < 0) {
                return NO_SUCH;
            }
            boolean stopped = !paddles[rank].goes;
            paddles[rank].goes = true;
            return asNumber(stopped);
        }

        int placeGauge(int cell) {
            if (isOutside(cell, CELLS)) {
                return NO_SUCH;
            }
            if (gaugeCount >= MOST_GAUGES) {
                return TOO_MANY;
            }
            gauges[gaugeCount].startIn(cell);
            gaugeCount++;
            return gaugeCount - 1;
        }

        int changeLevel(int cell, int level) {
            if (isOutside(cell, CELLS)) {
                return NO_SUCH;
            }
            if (level < -FARTHEST || level > FARTHEST) {
                return BAD_VALUE;
            }
            int previous = levels[cell];
            levels[cell] = level;
            return previous + ABOVE_LEVELS;
        }

        int passSteps(int count) {
            if (count < 1 || count > MOST_PASS) {
                return BAD_VALUE;
            }
            if (steps + count > MOST_STEPS) {
                return NOT_POSSIBLE;
            }
            int stopped = 0;
            for (int passed = 0; passed < count; passed++) {
                stopped += step();
            }
            return stopped;
        }

        /** Lets one step pass, and returns how many paddles stopped in it. */
        int step() {
            int stopped = movePaddles();
            moveWater();
            calmBeach();
            steps++;
            for (int gauge = 0; gauge < gaugeCount; gauge++) {
                gauges[gauge].note(levels[gauges[gauge].cell]);
            }
            return stopped;
        }

        int movePaddles() {
            int stopped = 0;
            for (int rank = 0; rank < paddleCount; rank++) {
                Paddle paddle = paddles[rank];
                if (paddle.goes && Math.abs(levels[paddle.cell]) > settings[HARD]) {
                    paddle.goes = false;
                    stopped++;
                } else if (paddle.goes) {
                    levels[paddle.cell] = paddle.pushAt(steps);
                }
            }
            return stopped;
        }

        /** Speeds and levels in one go: a cell's speed needs only the old level of the cell to its left. */
        void moveWater() {
            int left = levels[0];
            for (int cell = 0; cell < CELLS; cell++) {
                int own = levels[cell];
                int right = cell + 1 < CELLS ? levels[cell + 1] : own;
                int speed = withinBounds(speeds[cell] + (left + right - 2 * own) / 4);
                speed -= speed * settings[LOSS] / 100;
                speeds[cell] = speed;
                levels[cell] = withinBounds(own + speed);
                left = own;
            }
        }

        void calmBeach() {
            for (int cell = PADDLE_CELLS; cell < CELLS; cell++) {
                int share = settings[BEACH] * (cell - PADDLE_CELLS + 1);
                levels[cell] -= levels[cell] * share / 400;
                speeds[cell] -= speeds[cell] * share / 400;
            }
        }

        boolean isCrest(int cell) {
            return cell >= 1 && cell < CELLS - 1
                && levels[cell] > levels[cell - 1] && levels[cell] > levels[cell + 1];
        }

        boolean isTrough(int cell) {
            return cell >= 1 && cell < CELLS - 1
                && levels[cell] < levels[cell - 1] && levels[cell] < levels[cell + 1];
        }

        boolean isCalm() {
            for (int cell = 0; cell < CELLS; cell++) {
                if (levels[cell] != 0 || speeds[cell] != 0) {
                    return false;
                }
            }
            return true;
        }

        long cellsThatAre(int what) {
            long cells = 0;
            for (int cell = 0; cell < CELLS; cell++) {
                if (isPlace(cell, what)) {
                    cells |= 1L << cell;
                }
            }
            return cells;
        }

        boolean isPlace(int cell, int what) {
            int rank = rankIn(cell);
            switch (what) {
                case CREST:
                    return isCrest(cell);
                case TROUGH:
                    return isTrough(cell);
                case UNEVEN:
                    return levels[cell] != 0;
                case PADDLE:
                    return rank >= 0;
                case STOPPED:
                    return rank >= 0 && !paddles[rank].goes;
                default:
                    return false;
            }
        }

        int sumOfLevels() {
            int sum = 0;
            for (int cell = 0; cell < CELLS; cell++) {
                sum += levels[cell];
            }
            return sum;
        }

        int motion() {
            int sum = 0;
            for (int cell = 0; cell < CELLS; cell++) {
                sum += Math.abs(levels[cell]) + Math.abs(speeds[cell]);
            }
            return sum;
        }

        int farthestLevel() {
            int farthest = 0;
            for (int cell = 0; cell < CELLS; cell++) {
                farthest = Math.max(farthest, Math.abs(levels[cell]));
            }
            return farthest;
        }

        int lastUnevenCell() {
            for (int cell = CELLS - 1; cell >= 0; cell--) {
                if (levels[cell] != 0) {
                    return cell;
                }
            }
            return NONE;
        }
    }

    /** The text, and the reading of its orders; the fields behind at are those of the order read last. */
    private static final class Pad {
        final char[] signs = new char[MOST_SIGNS];
        int length;
        int at;
        int kind;
        int target;
        int sort;
        int value;
        int period;
        int phase;

        int append(long characters) {
            int fresh = countOf(characters);
            if (fresh < 0) {
                return BAD_VALUE;
            }
            if (length + fresh > MOST_SIGNS) {
                return TOO_MANY;
            }
            long rest = characters;
            for (int place = length + fresh - 1; place >= length; place--) {
                signs[place] = (char) (rest & 255);
                rest >>>= 8;
            }
            length += fresh;
            return length;
        }

        /** How many characters a number gives, BAD_VALUE if it gives none or a wrong one. */
        static int countOf(long characters) {
            int found = 0;
            long rest = characters;
            while (found < SIGNS_AT_ONCE && (rest & 255) != 0) {
                int code = (int) (rest & 255);
                if (code < LEAST_SIGN || code > GREATEST_SIGN) {
                    return BAD_VALUE;
                }
                found++;
                rest >>>= 8;
            }
            return found == 0 || rest != 0 ? BAD_VALUE : found;
        }

        /** The fault's index, NONE if there is none. A read that fails leaves at on the fault. */
        int findFault() {
            at = 0;
            for (int orders = 0; orders < MOST_SIGNS; orders++) {
                if (!readOrder()) {
                    return at;
                }
                if (at >= length) {
                    return NONE;
                }
                if (!accept(';')) {
                    return at;
                }
            }
            return at;
        }

        boolean readOrder() {
            kind = signHere();
            switch (kind) {
                case 'p':
                    at++;
                    return readPaddle();
                case 'l':
                    at++;
                    return readTarget() && accept('=') && readValue();
                case 'x':
                case 'g':
                case 't':
                    at++;
                    return readTarget();
                default:
                    return false;
            }
        }

        boolean readPaddle() {
            if (!readTarget() || !readSort() || !readValue() || !accept('/')) {
                return false;
            }
            period = readNumber();
            phase = 0;
            if (period >= 0 && accept('+')) {
                phase = readNumber();
            }
            return period >= 0 && phase >= 0;
        }

        boolean readTarget() {
            target = readNumber();
            return target >= 0;
        }

        boolean readSort() {
            switch (signHere()) {
                case 'f':
                    sort = FLAT;
                    break;
                case 's':
                    sort = SAW;
                    break;
                case 'b':
                    sort = BOX;
                    break;
                case 't':
                    sort = TENT;
                    break;
                default:
                    return false;
            }
            at++;
            return true;
        }

        boolean readValue() {
            boolean negative = accept('-');
            int size = readNumber();
            value = negative ? -size : size;
            return size >= 0;
        }

        /**
         * The number here, BAD_TEXT if there is none. It ends ahead of a digit that it can't take: nothing
         * that may follow a number begins with a digit, so the fault is found at that digit.
         */
        int readNumber() {
            if (!isDigitHere()) {
                return BAD_TEXT;
            }
            int number = signHere() - '0';
            at++;
            for (int digits = 1; digits < MOST_DIGITS && number > 0 && isDigitHere(); digits++) {
                number = 10 * number + signHere() - '0';
                at++;
            }
            return number;
        }

        boolean isDigitHere() {
            return signHere() >= '0' && signHere() <= '9';
        }

        boolean accept(char sign) {
            if (signHere() != sign) {
                return false;
            }
            at++;
            return true;
        }

        /** The sign at the place of reading, 0 (which no pad holds) behind the end. */
        int signHere() {
            return at < length ? signs[at] : 0;
        }
    }

    /** The states ahead of the latest changes, the oldest one first. */
    private static final class History {
        final Tank[] states = new Tank[MOST_UNDONE];
        int size;

        History() {
            for (int state = 0; state < MOST_UNDONE; state++) {
                states[state] = new Tank();
            }
        }

        void push(Tank tank) {
            if (size >= MOST_UNDONE) {
                dropOldest();
            }
            states[size].copyFrom(tank);
            size++;
        }

        void dropOldest() {
            Tank oldest = states[0];
            for (int state = 1; state < MOST_UNDONE; state++) {
                states[state - 1] = states[state];
            }
            // The oldest one's tank is used again for the newest one.
            states[MOST_UNDONE - 1] = oldest;
            size = MOST_UNDONE - 1;
        }

        void popInto(Tank tank) {
            if (size > 0) {
                size--;
                tank.copyFrom(states[size]);
            }
        }
    }
}
