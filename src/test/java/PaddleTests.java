/** Promises 3 paddle, 4 lift, 5 again, 10 ofPaddle, and how paddles push and stop in a step. */
public final class PaddleTests {
    public static void main(String[] args) {
        placing();
        edgesOfRecipes();
        recipesThatAreRefused();
        errorsInTheirOrder();
        mostPaddles();
        lifting();
        goingAgain();
        asking();
        askingThatIsRefused();
        flat();
        saw();
        box();
        tent();
        roundingTowardZero();
        shortestPeriods();
        longestPeriods();
        phases();
        pushingInAStep();
        pushTakesTheLevelsPlace();
        stopping();
        stoppingInSeveralSteps();
        stoppedPaddles();
        Due.finish();
    }

    private static void placing() {
        PaddleRows rows = new PaddleRows();
        Due.due("paddle", rows.paddle(20, 1, 5, 6, 7), 1);
        Due.due("paddle", rows.paddle(35, 2, -5, 7, 8), 2);
        Due.due("paddle", rows.paddle(0, 3, 9, 8, 9), 3);
        Due.due("paddle", rows.paddle(19, 0, 1, 9, 10), 4);
        int[] cells = {0, 19, 20, 35};
        int[] sorts = {3, 0, 1, 2};
        int[] heights = {1009, 1001, 1005, 995};
        for (int rank = 0; rank < 4; rank++) {
            Due.due("cell of rank " + rank, rows.ofPaddle(rank, 0), cells[rank]);
            Due.due("sort of rank " + rank, rows.ofPaddle(rank, 1), sorts[rank]);
            Due.due("height of rank " + rank, rows.ofPaddle(rank, 2), heights[rank]);
        }
        Due.due("paddle in its place", rows.paddle(20, 3, -9, 2, 1), 4);
        Due.due("its sort", rows.ofPaddle(2, 1), 3);
        Due.due("its height", rows.ofPaddle(2, 2), 991);
        Due.due("its period", rows.ofPaddle(2, 3), 2);
        Due.due("its phase", rows.ofPaddle(2, 4), 1);
        Due.due("paddle is a change", rows.count(12), 5);
        Due.due("paddle leaves the level", rows.cell(20, 0), 10000);
    }

    private static void edgesOfRecipes() {
        PaddleRows rows = new PaddleRows();
        Due.due("least", rows.paddle(0, 0, -999, 1, 0), 1);
        Due.due("greatest", rows.paddle(35, 3, 999, 60, 59), 2);
        Due.due("phase beyond the period", rows.paddle(1, 1, 0, 1, 59), 3);
    }

    private static void recipesThatAreRefused() {
        PaddleRows rows = new PaddleRows();
        rows.paddle(3, 1, 2, 3, 4);
        PaddleRows twin = new PaddleRows();
        twin.paddle(3, 1, 2, 3, 4);
        int[] wrongCells = {-1, 36, 39, 40, Integer.MIN_VALUE, Integer.MAX_VALUE};
        for (int cell : wrongCells) {
            Due.due("paddle in " + cell, rows.paddle(cell, 0, 0, 1, 0), -1);
        }
        int[][] wrong = {{-1, 0, 1, 0}, {4, 0, 1, 0}, {0, -1000, 1, 0}, {0, 1000, 1, 0}, {0, 0, 0, 0},
            {0, 0, 61, 0}, {0, 0, -1, 0}, {0, 0, 1, -1}, {0, 0, 1, 60}, {Integer.MAX_VALUE, 0, 1, 0},
            {0, Integer.MIN_VALUE, 1, 0}, {0, 0, Integer.MIN_VALUE, 0}, {0, 0, 1, Integer.MAX_VALUE}};
        for (int[] recipe : wrong) {
            Due.due("wrong recipe", rows.paddle(3, recipe[0], recipe[1], recipe[2], recipe[3]), -2);
        }
        Due.due("refused paddle", Tanks.seen(rows), Tanks.seen(twin));
    }

    private static void errorsInTheirOrder() {
        PaddleRows rows = new PaddleRows();
        for (int cell = 0; cell < 6; cell++) {
            rows.paddle(cell, 0, 1, 1, 0);
        }
        Due.due("no cell, bad value, too many", rows.paddle(36, 4, 0, 0, 0), -1);
        Due.due("no cell, too many", rows.paddle(36, 0, 0, 1, 0), -1);
        Due.due("bad value, too many", rows.paddle(10, 4, 0, 1, 0), -2);
        Due.due("too many", rows.paddle(10, 0, 0, 1, 0), -4);
    }

    private static void mostPaddles() {
        PaddleRows rows = new PaddleRows();
        for (int cell = 5; cell >= 0; cell--) {
            Due.due("paddle", rows.paddle(cell, 0, 10 * cell, 1, 0), 6 - cell);
        }
        Due.due("one more", rows.paddle(6, 0, 0, 1, 0), -4);
        Due.due("in place of the last", rows.paddle(5, 0, 7, 1, 0), 6);
        Due.due("in place of the first", rows.paddle(0, 0, 8, 1, 0), 6);
        Due.due("its height", rows.ofPaddle(0, 2), 1008);
        Due.due("its height", rows.ofPaddle(5, 2), 1007);
        Due.due("its height", rows.ofPaddle(3, 2), 1030);
        Due.due("cells", rows.places(3), 63);
    }

    private static void lifting() {
        PaddleRows rows = new PaddleRows();
        for (int cell = 0; cell < 6; cell++) {
            rows.paddle(6 * cell, 0, cell, 1 + cell, 0);
        }
        Due.due("lift the middle", rows.lift(12), 5);
        Due.due("lift it again", rows.lift(12), -1);
        Due.due("lift the first", rows.lift(0), 4);
        Due.due("lift the last", rows.lift(30), 3);
        int[] cells = {6, 18, 24};
        for (int rank = 0; rank < 3; rank++) {
            Due.due("cell left", rows.ofPaddle(rank, 0), cells[rank]);
            Due.due("period left", rows.ofPaddle(rank, 3), 1 + cells[rank] / 6);
        }
        Due.due("rank left", rows.ofPaddle(3, 0), -1);
        Due.due("a new one", rows.paddle(7, 3, 1, 1, 1), 4);
        Due.due("its rank", rows.ofPaddle(1, 0), 7);
        Due.due("another one", rows.paddle(25, 2, 5, 2, 2), 5);
        Due.due("one more", rows.paddle(26, 1, 6, 3, 3), 6);
        int[] all = {6, 7, 18, 24, 25, 26};
        for (int rank = 0; rank < 6; rank++) {
            Due.due("cell of all", rows.ofPaddle(rank, 0), all[rank]);
        }
        Due.due("sort of one", rows.ofPaddle(4, 1), 2);
        Due.due("sort of the last", rows.ofPaddle(5, 1), 1);
        PaddleRows none = new PaddleRows();
        none.paddle(0, 0, 5, 1, 0);
        PaddleRows twin = new PaddleRows();
        twin.paddle(0, 0, 5, 1, 0);
        int[] wrong = {1, -1, 36, 40, Integer.MIN_VALUE, Integer.MAX_VALUE};
        for (int cell : wrong) {
            Due.due("lift(" + cell + ")", none.lift(cell), -1);
        }
        Due.due("refused lift", Tanks.seen(none), Tanks.seen(twin));
        Due.due("lift the only one", none.lift(0), 0);
        Due.due("lift is a change", none.count(12), 2);
    }

    private static void goingAgain() {
        PaddleRows rows = stoppedAt(10);
        Due.due("goes", rows.ofPaddle(0, 5), 0);
        Due.due("again(9)", rows.again(9), -1);
        Due.due("again(-1)", rows.again(-1), -1);
        Due.due("again(40)", rows.again(40), -1);
        Due.due("changes before", rows.count(12), 3);
        Due.due("again", rows.again(10), 1);
        Due.due("goes", rows.ofPaddle(0, 5), 1);
        Due.due("again twice", rows.again(10), 0);
        Due.due("again is a change", rows.count(12), 5);
        PaddleRows anew = stoppedAt(10);
        anew.paddle(10, 0, 1, 1, 0);
        Due.due("a paddle in place goes", anew.ofPaddle(0, 5), 1);
    }

    private static void asking() {
        PaddleRows rows = new PaddleRows();
        rows.paddle(4, 1, -999, 60, 59);
        int[] due = {4, 1, 1, 60, 59, 1, 1000 - 999 * 58 / 60};
        for (int what = 0; what < due.length; what++) {
            Due.due("ofPaddle(0, " + what + ")", rows.ofPaddle(0, what), due[what]);
        }
        rows.pass(1);
        Due.due("push of the next step", rows.ofPaddle(0, 6), 1999);
    }

    private static void askingThatIsRefused() {
        PaddleRows rows = new PaddleRows();
        Due.due("ofPaddle(0, 0) of none", rows.ofPaddle(0, 0), -1);
        rows.paddle(4, 1, 9, 6, 5);
        int[] wrongRanks = {-1, 1, 6, Integer.MIN_VALUE, Integer.MAX_VALUE};
        for (int rank : wrongRanks) {
            Due.due("ofPaddle(" + rank + ", 0)", rows.ofPaddle(rank, 0), -1);
            Due.due("ofPaddle(" + rank + ", 7)", rows.ofPaddle(rank, 7), -1);
        }
        Due.due("ofPaddle(0, 7)", rows.ofPaddle(0, 7), -2);
        Due.due("ofPaddle(0, -1)", rows.ofPaddle(0, -1), -2);
    }

    private static void flat() {
        pushes(PaddleRows.FLAT, -40, 3, 0, new int[] {-40, -40, -40, -40});
    }

    private static void saw() {
        pushes(PaddleRows.SAW, 100, 4, 0, new int[] {-100, -50, 0, 50, -100, -50});
        pushes(PaddleRows.SAW, -7, 3, 0, new int[] {7, 2, -2, 7});
        pushes(PaddleRows.SAW, 5, 1, 0, new int[] {-5, -5});
    }

    private static void box() {
        pushes(PaddleRows.BOX, 30, 3, 0, new int[] {30, 30, -30, 30});
        pushes(PaddleRows.BOX, -30, 4, 0, new int[] {-30, -30, 30, 30, -30});
        pushes(PaddleRows.BOX, 30, 1, 0, new int[] {30, 30});
    }

    private static void tent() {
        pushes(PaddleRows.TENT, 100, 8, 0, new int[] {-100, -50, 0, 50, 100, 50, 0, -50, -100});
        pushes(PaddleRows.TENT, 10, 3, 0, new int[] {-10, 3, 3, -10});
        pushes(PaddleRows.TENT, 5, 1, 0, new int[] {-5, -5});
    }

    private static void roundingTowardZero() {
        pushes(PaddleRows.SAW, 7, 5, 0, new int[] {-7, -4, -1, 1, 4});
        pushes(PaddleRows.SAW, -7, 5, 0, new int[] {7, 4, 1, -1, -4});
        pushes(PaddleRows.SAW, -1, 60, 0, new int[] {1, 0, 0});
        pushes(PaddleRows.TENT, 7, 5, 0, new int[] {-7, -1, 4, 4, -1});
        pushes(PaddleRows.TENT, -7, 5, 0, new int[] {7, 1, -4, -4, 1});
        pushes(PaddleRows.TENT, 1, 60, 0, new int[] {-1, 0, 0});
    }

    private static void shortestPeriods() {
        pushes(PaddleRows.FLAT, 5, 1, 59, new int[] {5, 5, 5});
        pushes(PaddleRows.SAW, 5, 1, 59, new int[] {-5, -5, -5});
        pushes(PaddleRows.BOX, 5, 1, 59, new int[] {5, 5, 5});
        pushes(PaddleRows.TENT, 5, 1, 59, new int[] {-5, -5, -5});
        pushes(PaddleRows.SAW, 5, 2, 0, new int[] {-5, 0, -5, 0});
        pushes(PaddleRows.BOX, 5, 2, 0, new int[] {5, -5, 5, -5});
        pushes(PaddleRows.TENT, 5, 2, 0, new int[] {-5, 5, -5, 5});
    }

    /** Where the period ends: t is 58, 59, and 0 again; and where its half ends: 29, 30, 31. */
    private static void longestPeriods() {
        pushes(PaddleRows.SAW, 60, 60, 58, new int[] {56, 58, -60, -58});
        pushes(PaddleRows.BOX, 60, 60, 58, new int[] {-60, -60, 60, 60});
        pushes(PaddleRows.TENT, 60, 60, 58, new int[] {-52, -56, -60, -56});
        pushes(PaddleRows.SAW, 60, 60, 29, new int[] {-2, 0, 2});
        pushes(PaddleRows.BOX, 60, 60, 29, new int[] {60, -60, -60});
        pushes(PaddleRows.TENT, 60, 60, 29, new int[] {56, 60, 56});
        pushes(PaddleRows.SAW, 999, 60, 59, new int[] {999 * 58 / 60, -999});
        pushes(PaddleRows.TENT, -999, 60, 30, new int[] {-999, -999 * 56 / 60});
    }

    private static void phases() {
        pushes(PaddleRows.SAW, 100, 4, 1, new int[] {-50, 0, 50, -100});
        pushes(PaddleRows.SAW, 100, 4, 59, new int[] {50, -100, -50, 0});
        pushes(PaddleRows.BOX, 9, 4, 6, new int[] {-9, -9, 9, 9});
        pushes(PaddleRows.TENT, 100, 8, 11, new int[] {50, 100, 50});
    }

    private static void pushes(int sort, int height, int period, int phase, int[] due) {
        PaddleRows rows = new PaddleRows();
        rows.paddle(0, sort, height, period, phase);
        for (int step = 0; step < due.length; step++) {
            Due.due("push of sort " + sort + " in step " + step, rows.ofPaddle(0, 6) - 1000, due[step]);
            rows.pass(1);
        }
    }

    private static void pushingInAStep() {
        PaddleRows rows = Tanks.lossless();
        rows.paddle(10, PaddleRows.SAW, 100, 4, 0);
        rows.paddle(11, PaddleRows.FLAT, 40, 1, 0);
        Due.due("pass", rows.pass(1), 0);
        // pushed to -100 and 40 first: (0 + 40 + 200) / 4 and (-100 + 0 - 80) / 4
        Due.due("level of 10", Tanks.level(rows, 10), -40);
        Due.due("speed of 10", Tanks.speed(rows, 10), 60);
        Due.due("level of 11", Tanks.level(rows, 11), -5);
        Due.due("level of 9", Tanks.level(rows, 9), -25);
        Due.due("level of 12", Tanks.level(rows, 12), 10);
        rows.pass(1);
        // now to -50 and 40: 60 + (-25 + 40 + 100) / 4
        Due.due("speed of 10", Tanks.speed(rows, 10), 88);
        Due.due("level of 10", Tanks.level(rows, 10), 38);
    }

    private static void pushTakesTheLevelsPlace() {
        PaddleRows rows = Tanks.lossless();
        rows.level(10, 400);
        rows.paddle(10, PaddleRows.FLAT, 0, 1, 0);
        rows.pass(1);
        Due.due("level of 10", Tanks.level(rows, 10), 0);
        Due.due("level of 9", Tanks.level(rows, 9), 0);
    }

    private static void stopping() {
        int[][] cases = {{300, 300, 0}, {-300, 300, 0}, {301, 300, 1}, {-301, 300, 1}, {1, 1, 0}, {2, 1, 1},
            {9999, 9999, 0}, {500, 500, 0}, {501, 500, 1}};
        for (int[] row : cases) {
            PaddleRows rows = new PaddleRows();
            rows.set(PaddleRows.HARD, row[1]);
            rows.level(7, row[0]);
            rows.paddle(7, PaddleRows.FLAT, 999, 1, 0);
            Due.due("pass at " + row[0], rows.pass(1), row[2]);
            Due.due("goes", rows.ofPaddle(0, 5), 1 - row[2]);
        }
        PaddleRows rows = Tanks.lossless();
        rows.level(7, 600);
        rows.paddle(7, PaddleRows.FLAT, 100, 1, 0);
        rows.pass(1);
        Due.due("a paddle that stops does not push", Tanks.level(rows, 7), 300);
    }

    /** The ones that stop are counted over all the steps of a pass, each one once. */
    private static void stoppingInSeveralSteps() {
        PaddleRows rows = Tanks.lossless();
        rows.set(PaddleRows.HARD, 100);
        rows.paddle(5, PaddleRows.FLAT, 0, 1, 0);
        rows.paddle(15, PaddleRows.FLAT, 0, 1, 0);
        rows.paddle(25, PaddleRows.FLAT, 0, 1, 0);
        rows.level(15, -101);
        // a quarter of this comes to 25 in the first step, so that it stops in the second
        rows.level(26, 404);
        Due.due("pass of 2", rows.pass(2), 2);
        Due.due("those that stopped", rows.places(4), 1L << 15 | 1L << 25);
        rows.undo();
        Due.due("pass of 1", rows.pass(1), 1);
        Due.due("level of 25", Tanks.level(rows, 25), 101);
        Due.due("pass of another", rows.pass(1), 1);
        rows.undo();
        rows.undo();
        rows.level(26, 400);
        Due.due("pass of 2, no farther than HARD", rows.pass(2), 1);
    }

    private static void stoppedPaddles() {
        PaddleRows rows = stoppedAt(10);
        rows.paddle(20, PaddleRows.FLAT, 10, 1, 0);
        Due.due("stopped", rows.count(2), 1);
        Due.due("its cell", rows.places(4), 1L << 10);
        Due.due("its push is told all the same", rows.ofPaddle(0, 6), 1100);
        rows.level(20, 501);
        rows.level(10, 9999);
        Due.due("one that stopped does not stop again", rows.pass(5), 1);
        Due.due("stopped", rows.count(2), 2);
        rows.level(10, 0);
        rows.level(20, 0);
        Due.due("none goes by itself", rows.pass(1), 0);
        Due.due("stopped", rows.places(4), 1L << 10 | 1L << 20);
        rows.lift(10);
        Due.due("stopped", rows.count(2), 1);
        Due.due("cells", rows.places(4), 1L << 20);
    }

    private static PaddleRows stoppedAt(int cell) {
        PaddleRows rows = new PaddleRows();
        rows.paddle(cell, PaddleRows.FLAT, 100, 1, 0);
        rows.level(cell, 501);
        rows.pass(1);
        return rows;
    }
}
