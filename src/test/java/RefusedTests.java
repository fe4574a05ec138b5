/**
 * Each call that fails: of the errors that apply, the one that the document names first is the answer, and the call
 * changes nothing, neither what can be seen at once nor what undo() and restore() bring back later.
 */
public final class RefusedTests {
    private static final int MIN = Integer.MIN_VALUE, MAX = Integer.MAX_VALUE;
    private static final int NEW = 0, BUSY = 1, FULL = 2;

    private interface Call {
        long on(PaddleRows rows);
    }

    public static void main(String[] args) {
        changes();
        placesThatAreTaken();
        paddlesThatAreNotThere();
        questions();
        questionsOfWhatIsNotThere();
        whatIfs();
        texts();
        undoAndSlots();
        errorsInTheirOrder();
        Due.finish();
    }

    private static void changes() {
        everywhere("set of setting -1", -2, rows -> rows.set(-1, 1));
        everywhere("set of setting 3", -2, rows -> rows.set(3, 1));
        everywhere("set of BEACH below 0", -2, rows -> rows.set(0, -1));
        everywhere("set of BEACH above 100", -2, rows -> rows.set(0, 101));
        everywhere("set of LOSS below 0", -2, rows -> rows.set(1, -1));
        everywhere("set of LOSS above 50", -2, rows -> rows.set(1, 51));
        everywhere("set of HARD below 1", -2, rows -> rows.set(2, 0));
        everywhere("set of HARD above 9999", -2, rows -> rows.set(2, 10000));
        everywhere("paddle in -1", -1, rows -> rows.paddle(-1, 0, 1, 1, 0));
        everywhere("paddle in 36", -1, rows -> rows.paddle(36, 0, 1, 1, 0));
        everywhere("paddle of sort -1", -2, rows -> rows.paddle(1, -1, 1, 1, 0));
        everywhere("paddle of sort 4", -2, rows -> rows.paddle(1, 4, 1, 1, 0));
        everywhere("paddle too low", -2, rows -> rows.paddle(1, 0, -1000, 1, 0));
        everywhere("paddle too high", -2, rows -> rows.paddle(1, 0, 1000, 1, 0));
        everywhere("paddle of period 0", -2, rows -> rows.paddle(1, 0, 1, 0, 0));
        everywhere("paddle of period 61", -2, rows -> rows.paddle(1, 0, 1, 61, 0));
        everywhere("paddle of phase -1", -2, rows -> rows.paddle(1, 0, 1, 1, -1));
        everywhere("paddle of phase 60", -2, rows -> rows.paddle(1, 0, 1, 1, 60));
        everywhere("gauge in -1", -1, rows -> rows.gauge(-1));
        everywhere("gauge in 40", -1, rows -> rows.gauge(40));
        everywhere("level of -1", -1, rows -> rows.level(-1, 5));
        everywhere("level of 40", -1, rows -> rows.level(40, 5));
        everywhere("level below -9999", -2, rows -> rows.level(5, -10000));
        everywhere("level above 9999", -2, rows -> rows.level(5, 10000));
        everywhere("pass of none", -2, rows -> rows.pass(0));
        everywhere("pass of fewer", -2, rows -> rows.pass(-1));
        everywhere("pass of 100", -2, rows -> rows.pass(100));
    }

    private static void placesThatAreTaken() {
        refused(FULL, "a seventh paddle", -4, rows -> rows.paddle(2, 3, 7, 7, 7));
        refused(FULL, "a seventh paddle behind all", -4, rows -> rows.paddle(34, 0, 1, 1, 0));
        refused(FULL, "a fifth gauge", -4, rows -> rows.gauge(0));
        refused(FULL, "a fifth gauge in a cell with one", -4, rows -> rows.gauge(39));
    }

    private static void paddlesThatAreNotThere() {
        int[] cells = {MIN, -1, 3, 34, 36, 39, 40, MAX};
        for (int cell : cells) {
            everywhere("lift in " + cell, -1, rows -> rows.lift(cell));
            everywhere("again in " + cell, -1, rows -> rows.again(cell));
        }
        refused(NEW, "lift in 0", -1, rows -> rows.lift(0));
        refused(NEW, "again in 0", -1, rows -> rows.again(0));
    }

    private static void questions() {
        int[] cells = {MIN, -1, 40, MAX};
        for (int cell : cells) {
            everywhere("cell " + cell, -1, rows -> rows.cell(cell, 0));
        }
        int[][] wrongWhats = {{-1, 4}, {-1, 7}, {-1, 5}, {-1, 5}, {-1, 13}};
        for (int end = 0; end < 2; end++) {
            int at = end;
            everywhere("cell, what", -2, rows -> rows.cell(39, wrongWhats[0][at]));
            everywhere("places, what", -2, rows -> rows.places(wrongWhats[3][at]));
            everywhere("count, what", -2, rows -> rows.count(wrongWhats[4][at]));
            for (int tank = BUSY; tank <= FULL; tank++) {
                refused(tank, "ofPaddle, what", -2, rows -> rows.ofPaddle(0, wrongWhats[1][at]));
                refused(tank, "ofGauge, what", -2, rows -> rows.ofGauge(0, wrongWhats[2][at]));
            }
        }
    }

    private static void questionsOfWhatIsNotThere() {
        int[] paddles = {0, 2, 6};
        int[] gauges = {0, 1, 4};
        int[] notes = {0, 8, 60};
        for (int tank = NEW; tank <= FULL; tank++) {
            int[] ranks = {MIN, -1, paddles[tank], MAX};
            for (int rank : ranks) {
                refused(tank, "ofPaddle " + rank, -1, rows -> rows.ofPaddle(rank, 0));
            }
            int[] numbers = {MIN, -1, gauges[tank], MAX};
            for (int gauge : numbers) {
                refused(tank, "ofGauge " + gauge, -1, rows -> rows.ofGauge(gauge, 0));
                refused(tank, "noted by " + gauge, -1, rows -> rows.noted(gauge, 0));
            }
            int[] agos = {MIN, -1, notes[tank], MAX};
            for (int ago : agos) {
                refused(tank, "noted " + ago + " ago", -1, rows -> rows.noted(0, ago));
            }
        }
    }

    private static void whatIfs() {
        everywhere("reaches in -1", -1, rows -> rows.reaches(-1, 1));
        everywhere("reaches in 40", -1, rows -> rows.reaches(40, 1));
        everywhere("reaches 0", -2, rows -> rows.reaches(39, 0));
        everywhere("reaches 10000", -2, rows -> rows.reaches(39, 10000));
        everywhere("bestPeriod of rank -1", -1, rows -> rows.bestPeriod(-1, 0, 1, 0));
        refused(NEW, "bestPeriod of rank 0", -1, rows -> rows.bestPeriod(0, 0, 1, 0));
        refused(BUSY, "bestPeriod of rank 2", -1, rows -> rows.bestPeriod(2, 0, 1, 0));
        refused(FULL, "bestPeriod of rank 6", -1, rows -> rows.bestPeriod(6, 0, 1, 0));
        everywhere("bestPeriod in 40", -1, rows -> rows.bestPeriod(0, 40, 1, 0));
        for (int tank = BUSY; tank <= FULL; tank++) {
            refused(tank, "bestPeriod in -1", -1, rows -> rows.bestPeriod(0, -1, 1, 0));
            refused(tank, "bestPeriod in 0 steps", -2, rows -> rows.bestPeriod(0, 0, 0, 0));
            refused(tank, "bestPeriod in 100 steps", -2, rows -> rows.bestPeriod(0, 0, 100, 0));
            refused(tank, "bestPeriod, what -1", -2, rows -> rows.bestPeriod(0, 0, 1, -1));
            refused(tank, "bestPeriod, what 2", -2, rows -> rows.bestPeriod(0, 0, 1, 2));
        }
    }

    private static void texts() {
        everywhere("put of no character", -2, rows -> rows.put(0));
        everywhere("put of code 32", -2, rows -> rows.put(32));
        everywhere("put of code 127", -2, rows -> rows.put(127));
        everywhere("put of code 1", -2, rows -> rows.put(1));
        everywhere("put of code 255", -2, rows -> rows.put(255));
        everywhere("put of a wrong one ahead of a right one", -2, rows -> rows.put(32 << 8 | 'x'));
        everywhere("put of a wrong one as the eighth", -2, rows -> rows.put(Tanks.packed("\u007fx1;x1;x")));
        everywhere("put with a bit above the end", -2, rows -> rows.put(1L << 63 | 'x'));
        everywhere("put with a bit right above the end", -2, rows -> rows.put(1L << 16 | 'x'));
        refused(FULL, "put of one too many", -4, rows -> rows.put('1'));
        refused(FULL, "put of eight too many", -4, rows -> rows.put(Tanks.packed("x1;x1;x1")));
        everywhere("carryOut of a text with a fault", -3, rows -> rows.carryOut());
    }

    private static void undoAndSlots() {
        refused(NEW, "undo of nothing", -5, rows -> rows.undo());
        refused(NEW, "restore of what was not saved", -5, rows -> rows.restore(0));
        everywhere("restore of what was not saved", -5, rows -> rows.restore(1));
        int[] slots = {MIN, -1, 2, MAX};
        for (int slot : slots) {
            everywhere("save in " + slot, -2, rows -> rows.save(slot));
            everywhere("restore from " + slot, -2, rows -> rows.restore(slot));
        }
    }

    /** Calls to which more than one error applies. */
    private static void errorsInTheirOrder() {
        refused(FULL, "no cell, no sort, a paddle too many", -1, rows -> rows.paddle(36, 4, 1, 1, 0));
        refused(FULL, "no cell, a paddle too many", -1, rows -> rows.paddle(-1, 0, 1, 1, 0));
        refused(FULL, "no sort, a paddle too many", -2, rows -> rows.paddle(2, 4, 1, 1, 0));
        refused(FULL, "no height, a paddle too many", -2, rows -> rows.paddle(2, 0, 1000, 1, 0));
        refused(FULL, "no period, a paddle too many", -2, rows -> rows.paddle(2, 0, 1, 0, 0));
        refused(FULL, "no phase, a paddle too many", -2, rows -> rows.paddle(2, 0, 1, 1, 60));
        everywhere("no cell, no height", -1, rows -> rows.paddle(36, 0, 1000, 1, 0));
        everywhere("no cell, no period", -1, rows -> rows.paddle(36, 0, 1, 0, 0));
        everywhere("no cell, no phase", -1, rows -> rows.paddle(36, 0, 1, 1, 60));
        refused(FULL, "no cell, a gauge too many", -1, rows -> rows.gauge(40));
        everywhere("no cell, no level", -1, rows -> rows.level(40, 10000));
        everywhere("cell: no cell, no what", -1, rows -> rows.cell(40, 4));
        everywhere("ofPaddle: no paddle, no what", -1, rows -> rows.ofPaddle(6, 7));
        everywhere("ofGauge: no gauge, no what", -1, rows -> rows.ofGauge(4, 5));
        everywhere("reaches: no cell, not so far", -1, rows -> rows.reaches(40, 0));
        everywhere("bestPeriod: no paddle, no steps", -1, rows -> rows.bestPeriod(6, 0, 0, 0));
        everywhere("bestPeriod: no paddle, no what", -1, rows -> rows.bestPeriod(6, 0, 1, 2));
        everywhere("bestPeriod: no cell, no steps", -1, rows -> rows.bestPeriod(0, 40, 0, 0));
        everywhere("bestPeriod: no cell, no what", -1, rows -> rows.bestPeriod(0, 40, 1, 2));
        refused(FULL, "put: a wrong code, too many", -2, rows -> rows.put(' '));
        refused(FULL, "put: no character, too many", -2, rows -> rows.put(0));
        refused(FULL, "put: a bit above the end, too many", -2, rows -> rows.put(1L << 32 | 'x'));
    }

    private static void everywhere(String name, long due, Call call) {
        for (int tank = NEW; tank <= FULL; tank++) {
            refused(tank, name, due, call);
        }
    }

    private static void refused(int tank, String name, long due, Call call) {
        PaddleRows rows = made(tank);
        PaddleRows twin = made(tank);
        Due.due(name + " on tank " + tank, call.on(rows), due);
        Due.due("all behind " + name, Tanks.seen(rows), Tanks.seen(twin));
        Due.due("what comes behind " + name, later(rows), later(twin));
    }

    private static PaddleRows made(int tank) {
        switch (tank) {
            case NEW:
                return new PaddleRows();
            case BUSY:
                PaddleRows busy = Tanks.busy();
                busy.save(0);
                Tanks.write(busy, "x1;x");
                return busy;
            default:
                return full();
        }
    }

    /** As many paddles, gauges, notes, changes and characters as there can be; two paddles stopped. */
    private static PaddleRows full() {
        PaddleRows rows = new PaddleRows();
        int[] cells = {0, 1, 8, 14, 20, 35};
        for (int cell : cells) {
            rows.paddle(cell, cell % 4, 100 + cell, 5 + cell, cell);
        }
        int[] gauges = {0, 9, 38, 39};
        for (int cell : gauges) {
            rows.gauge(cell);
        }
        rows.pass(60);
        rows.save(0);
        rows.level(1, 800);
        rows.level(14, -800);
        rows.pass(2);
        rows.set(PaddleRows.HARD, 700);
        rows.level(30, 77);
        rows.lift(20);
        rows.paddle(21, PaddleRows.SAW, -50, 20, 4);
        Tanks.write(rows, "t99;t98;t97;t96;t95;t94;t93;t92;t91;t90;t89;t88;t87;t86;t85;t84;t83;t82;t81;t80;");
        Due.due("a full pad", rows.count(11), 80);
        Due.due("as many changes as are kept", rows.count(12), 6);
        return rows;
    }

    /** What undo, the slots and the pad bring forth, as a text. */
    private static String later(PaddleRows rows) {
        StringBuilder all = new StringBuilder();
        for (int state = 0; state < 7; state++) {
            all.append(rows.undo()).append(' ').append(rows.count(5)).append(' ').append(rows.count(0)).append(' ')
                .append(rows.places(3)).append(' ').append(rows.places(4)).append(' ').append(rows.count(3)).append(';');
        }
        for (int slot = 0; slot < 2; slot++) {
            all.append(rows.restore(slot)).append(' ').append(rows.count(5)).append(' ').append(rows.places(3)).append(';');
        }
        return all.append(rows.wipe()).toString();
    }
}
