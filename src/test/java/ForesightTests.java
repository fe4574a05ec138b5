/** Promises 15 reaches, 16 bestPeriod and 17 calmIn; none of them changes anything. */
public final class ForesightTests {
    public static void main(String[] args) {
        reaching();
        reachingLate();
        reachingPastAStop();
        reachesThatAreRefused();
        bestPeriods();
        firstAndLastStep();
        longestBestPeriod();
        bestPeriodOfAStoppedPaddle();
        bestPeriodsThatAreRefused();
        calming();
        neverCalm();
        calmingSpeeds();
        calmingWithPaddles();
        nothingChanges();
        Due.finish();
    }

    private static void reaching() {
        PaddleRows rows = Tanks.lossless();
        rows.level(10, -100);
        Due.due("reached", rows.reaches(10, 100), 0);
        Due.due("never reached by so little", rows.reaches(9, 9999), -6);
        Due.due("reached in a step", rows.reaches(9, 25), 1);
        Due.due("reached in two", rows.reaches(9, 26), 2);
        Due.due("reached in two", rows.reaches(8, 6), 2);
        Due.due("reached later", rows.reaches(8, 7), 3);
        PaddleRows still = new PaddleRows();
        still.paddle(5, PaddleRows.FLAT, 100, 1, 0);
        Due.due("reached by a push", still.reaches(4, 1), 1);
        still.paddle(5, PaddleRows.SAW, -999, 60, 31);
        Due.due("reached by a push later on", still.reaches(4, 100), stepsUntil(still, 4, 100));
    }

    /** Counts the steps on the tank itself. */
    private static int stepsUntil(PaddleRows rows, int cell, int far) {
        for (int steps = 0; steps < 90; steps++) {
            if (Math.abs(Tanks.level(rows, cell)) >= far) {
                return steps;
            }
            rows.pass(1);
        }
        return -6;
    }

    /** A saw that makes the waves at cell 20 higher for a long time: 113 is first reached in step 501. */
    private static void reachingLate() {
        PaddleRows rows = Tanks.lossless();
        rows.set(PaddleRows.HARD, 9999);
        rows.paddle(0, PaddleRows.SAW, 20, 26, 0);
        Due.due("in 500 steps", rows.reaches(20, 112), 500);
        Due.due("in 501 steps", rows.reaches(20, 113), -6);
        rows.pass(1);
        Due.due("in 500 steps", rows.reaches(20, 113), 500);
        rows.pass(1);
        Due.due("in 499 steps", rows.reaches(20, 113), 499);
        for (int call = 0; call < 5; call++) {
            rows.pass(99);
        }
        Due.due("in 4 steps", rows.reaches(20, 113), 4);
        rows.pass(4);
        Due.due("reached", rows.reaches(20, 113), 0);
    }

    /** A paddle that will stop in the steps that are foreseen no longer pushes there, and goes on in the tank. */
    private static void reachingPastAStop() {
        PaddleRows rows = new PaddleRows();
        rows.set(PaddleRows.HARD, 100);
        rows.paddle(5, PaddleRows.SAW, 800, 4, 2);
        rows.level(5, 101);
        Due.due("no push", rows.reaches(5, 102), -6);
        rows.level(5, 100);
        // pushed to 0 first, and to 400 then: (0 + 0 - 800) / 4 is -200, less 2 hundredths -196
        Due.due("a push", rows.reaches(5, 102), 2);
        Due.due("the paddle goes", rows.count(2), 0);
        Due.due("no step has passed", rows.count(0), 0);
    }

    private static void reachesThatAreRefused() {
        PaddleRows rows = new PaddleRows();
        Due.due("reaches(-1, 1)", rows.reaches(-1, 1), -1);
        Due.due("reaches(40, 0)", rows.reaches(40, 0), -1);
        Due.due("reaches(0, 0)", rows.reaches(0, 0), -2);
        Due.due("reaches(0, -1)", rows.reaches(0, -1), -2);
        Due.due("reaches(0, 10000)", rows.reaches(0, 10000), -2);
        Due.due("reaches(39, 9999)", rows.reaches(39, 9999), -6);
        rows.level(39, -9999);
        Due.due("reaches(39, 9999)", rows.reaches(39, 9999), 0);
        Due.due("reaches(MAX, 1)", rows.reaches(Integer.MAX_VALUE, 1), -1);
        Due.due("reaches(0, MIN)", rows.reaches(0, Integer.MIN_VALUE), -2);
    }

    private static void bestPeriods() {
        PaddleRows rows = new PaddleRows();
        rows.paddle(2, PaddleRows.BOX, 200, 17, 3);
        rows.paddle(6, PaddleRows.TENT, 150, 9, 20);
        rows.level(10, 300);
        rows.pass(3);
        for (int rank = 0; rank < 2; rank++) {
            for (int cell = 3; cell < 12; cell += 4) {
                int[] due = bestByHand(rank, cell, 13);
                Due.due("best period", rows.bestPeriod(rank, cell, 13, 0), due[0]);
                Due.due("its level", rows.bestPeriod(rank, cell, 13, 1), due[1]);
            }
        }
        Due.due("of several the least", rows.bestPeriod(0, 30, 1, 0), 1);
        Due.due("their level", rows.bestPeriod(0, 30, 1, 1), 0);
        PaddleRows high = new PaddleRows();
        high.paddle(0, PaddleRows.FLAT, 1, 1, 0);
        high.level(20, 400);
        Due.due("the level of now does not count", high.bestPeriod(0, 20, 1, 1), 204);
        high.level(20, -400);
        Due.due("without its sign", high.bestPeriod(0, 20, 1, 1), 204);
        Due.due("99 steps", high.bestPeriod(0, 20, 99, 0), 1);
    }

    /** The level behind the last of the steps counts, one behind a later step does not. */
    private static void firstAndLastStep() {
        PaddleRows rows = new PaddleRows();
        rows.paddle(0, PaddleRows.FLAT, 400, 1, 0);
        int first = rows.reaches(6, 1);
        Due.due("no wave yet", rows.bestPeriod(0, 6, first - 1, 1), 0);
        Due.due("a wave in the last step", rows.bestPeriod(0, 6, first, 1) > 0 ? 1 : 0, 1);
        rows.level(39, 9999);
        // 9999 - 9999 / 4, and that less 80 hundredths
        Due.due("a level behind the first step", rows.bestPeriod(0, 39, 1, 1), 1510);
        Due.due("of 99 steps the first", rows.bestPeriod(0, 39, 99, 1), 1510);
    }

    /** The period and the level that are found when each period is tried on a tank of its own. */
    private static int[] bestByHand(int rank, int cell, int steps) {
        int[] best = {0, -1};
        for (int period = 1; period <= 60; period++) {
            PaddleRows rows = new PaddleRows();
            rows.paddle(2, PaddleRows.BOX, 200, 17, 3);
            rows.paddle(6, PaddleRows.TENT, 150, 9, 20);
            rows.level(10, 300);
            rows.pass(3);
            if (rank == 0) {
                rows.paddle(2, PaddleRows.BOX, 200, period, 3);
            } else {
                rows.paddle(6, PaddleRows.TENT, 150, period, 20);
            }
            int peak = 0;
            for (int step = 0; step < steps; step++) {
                rows.pass(1);
                peak = Math.max(peak, Math.abs(Tanks.level(rows, cell)));
            }
            if (peak > best[1]) {
                best = new int[] {period, peak};
            }
        }
        return best;
    }

    /** In phase 59, a saw's push of step 0 is greatest with the period 60. */
    private static void longestBestPeriod() {
        PaddleRows rows = Tanks.lossless();
        rows.paddle(5, PaddleRows.SAW, 900, 7, 59);
        rows.level(3, 900);
        Due.due("best period", rows.bestPeriod(0, 4, 1, 0), 60);
        // (900 + 870) / 4
        Due.due("its level", rows.bestPeriod(0, 4, 1, 1), 442);
        Due.due("the period stays", rows.ofPaddle(0, 3), 7);
    }

    /** Only the period is another one: a paddle that stopped stays as it is. */
    private static void bestPeriodOfAStoppedPaddle() {
        PaddleRows rows = new PaddleRows();
        rows.paddle(5, PaddleRows.SAW, 900, 10, 0);
        rows.level(5, 600);
        rows.pass(1);
        rows.level(4, 0);
        rows.level(5, 0);
        rows.level(6, 0);
        Due.due("stopped", rows.count(2), 1);
        Due.due("best period", rows.bestPeriod(0, 30, 2, 0), 1);
        Due.due("its level", rows.bestPeriod(0, 30, 2, 1), 0);
        Due.due("its own cell", rows.bestPeriod(0, 5, 9, 0), 1);
        rows.again(5);
        Due.due("goes again", rows.bestPeriod(0, 5, 1, 1) > 400 ? 1 : 0, 1);
    }

    private static void bestPeriodsThatAreRefused() {
        PaddleRows rows = new PaddleRows();
        Due.due("of no paddle", rows.bestPeriod(0, 0, 1, 0), -1);
        rows.paddle(5, 0, 1, 1, 0);
        int[][] wrong = {{-1, 0, 1, 0, -1}, {1, 0, 1, 0, -1}, {0, -1, 1, 0, -1}, {0, 40, 1, 0, -1}, {0, 40, 0, 2, -1},
            {1, 0, 0, 0, -1}, {0, 0, 0, 0, -2}, {0, 0, -1, 0, -2}, {0, 0, 100, 0, -2}, {0, 0, 1, -1, -2},
            {0, 0, 1, 2, -2}, {0, 0, Integer.MAX_VALUE, 0, -2}, {Integer.MIN_VALUE, 0, 1, 0, -1}};
        for (int[] row : wrong) {
            Due.due("wrong bestPeriod", rows.bestPeriod(row[0], row[1], row[2], row[3]), row[4]);
        }
        Due.due("last cell", rows.bestPeriod(0, 39, 99, 0), 1);
    }

    private static void calming() {
        PaddleRows rows = new PaddleRows();
        Due.due("a tank at rest", rows.calmIn(), 0);
        rows.set(PaddleRows.BEACH, 100);
        rows.level(39, 3);
        Due.due("the beach takes all", rows.calmIn(), 1);
        rows.level(39, -3);
        Due.due("the beach takes all", rows.calmIn(), 1);
        rows.set(PaddleRows.BEACH, 99);
        Due.due("the beach leaves a part", rows.calmIn(), -6);
        rows.set(PaddleRows.BEACH, 100);
        rows.level(39, 4);
        Due.due("the beach leaves the neighbour's part", rows.calmIn(), -6);
    }

    private static void neverCalm() {
        PaddleRows rows = new PaddleRows();
        rows.level(20, 1);
        // too little to move its neighbours or itself
        Due.due("for ever", rows.calmIn(), -6);
        rows.level(20, 0);
        rows.level(0, 1);
        Due.due("for ever at the end", rows.calmIn(), -6);
        PaddleRows moving = Tanks.lossless();
        moving.level(20, 4);
        moving.pass(1);
        moving.level(19, 0);
        moving.level(20, 0);
        moving.level(21, 0);
        Due.due("all levels are 0", moving.places(2), 0);
        Due.due("but not all speeds", moving.calmIn(), -6);
    }

    /** Speeds count as levels do: the beach takes that of cell 39, another one lasts but for what brings it to 0. */
    private static void calmingSpeeds() {
        PaddleRows last = Tanks.lossless();
        last.level(38, 1);
        last.level(39, 5);
        last.pass(1);
        Due.due("speed of 39", Tanks.speed(last, 39), -1);
        last.level(38, 0);
        last.level(39, 0);
        Due.due("levels and speeds", last.count(5), 1);
        Due.due("no beach", last.calmIn(), -6);
        last.set(PaddleRows.BEACH, 100);
        Due.due("the beach takes the speed", last.calmIn(), 1);
        PaddleRows beside = Tanks.lossless();
        beside.level(38, 3);
        beside.level(39, 2);
        beside.pass(1);
        Due.due("speed of 38", Tanks.speed(beside, 38), -1);
        beside.level(38, 0);
        beside.level(39, 0);
        beside.set(PaddleRows.BEACH, 100);
        Due.due("levels and speeds", beside.count(5), 1);
        Due.due("the speed lasts", beside.calmIn(), -6);
        beside.level(39, 4);
        Due.due("the neighbour brings it to 0", beside.calmIn(), 1);
        beside.pass(1);
        Due.due("calm", beside.calmIn(), 0);
    }

    private static void calmingWithPaddles() {
        PaddleRows rows = new PaddleRows();
        rows.paddle(10, PaddleRows.FLAT, 500, 1, 0);
        Due.due("paddles do not count", rows.calmIn(), 0);
        rows.set(PaddleRows.BEACH, 100);
        rows.level(39, 3);
        Due.due("calm in a step", rows.calmIn(), 1);
        Due.due("they are still there", rows.count(1), 1);
        Due.due("they still push", rows.reaches(10, 100), 1);
    }

    private static void nothingChanges() {
        PaddleRows rows = Tanks.busy();
        PaddleRows twin = Tanks.busy();
        rows.reaches(30, 100);
        rows.bestPeriod(0, 30, 99, 1);
        rows.bestPeriod(1, 30, 50, 0);
        rows.calmIn();
        Due.due("nothing is different", Tanks.seen(rows), Tanks.seen(twin));
        Due.due("undo", rows.undo(), twin.undo());
        Due.due("level", rows.cell(2, 0), twin.cell(2, 0));
    }
}
