/** Promises 1 (a new object), 2 set, 7 level, 8 pass, 9 cell, and what a step does to the water. */
public final class WaterTests {
    public static void main(String[] args) {
        newTank();
        settings();
        settingsThatAreRefused();
        levels();
        levelsThatAreRefused();
        cells();
        speedsAndLevels();
        ends();
        roundingTowardZero();
        loss();
        beach();
        beachRounding();
        beachOfEachCell();
        lossBesideZero();
        bounds();
        passing();
        passingThatIsRefused();
        boundOfSteps();
        Due.finish();
    }

    private static void newTank() {
        PaddleRows rows = new PaddleRows();
        for (int cell = 0; cell < 40; cell++) {
            Due.due("new level", rows.cell(cell, 0), 10000);
            Due.due("new speed", rows.cell(cell, 1), 10000);
        }
        int[] counts = {0, 0, 0, 0, 1000000, 0, 0, -6, 80, 2, 500, 0, 0};
        for (int what = 0; what < counts.length; what++) {
            Due.due("new count " + what, rows.count(what), counts[what]);
        }
        Due.due("new undo", rows.undo(), -5);
        Due.due("new restore 0", rows.restore(0), -5);
        Due.due("new restore 1", rows.restore(1), -5);
        Due.due("new wipe", rows.wipe(), 0);
    }

    private static void settings() {
        PaddleRows rows = new PaddleRows();
        int[][] edges = {{0, 100}, {0, 50}, {1, 9999}};
        int[] first = {80, 2, 500};
        for (int setting = 0; setting < 3; setting++) {
            Due.due("set to least", rows.set(setting, edges[setting][0]), first[setting]);
            Due.due("set to greatest", rows.set(setting, edges[setting][1]), edges[setting][0]);
            Due.due("set stands", rows.count(8 + setting), edges[setting][1]);
            Due.due("set again", rows.set(setting, edges[setting][1]), edges[setting][1]);
        }
        Due.due("set is a change", rows.count(12), 6);
    }

    private static void settingsThatAreRefused() {
        PaddleRows rows = new PaddleRows();
        int[][] wrong = {{-1, 1}, {3, 1}, {Integer.MIN_VALUE, 1}, {Integer.MAX_VALUE, 1}, {0, -1}, {0, 101},
            {1, -1}, {1, 51}, {2, 0}, {2, 10000}, {2, -1}, {0, Integer.MIN_VALUE}, {2, Integer.MAX_VALUE}};
        for (int[] pair : wrong) {
            Due.due("set(" + pair[0] + ", " + pair[1] + ")", rows.set(pair[0], pair[1]), -2);
        }
        Due.due("refused set", Tanks.seen(rows), Tanks.seen(new PaddleRows()));
    }

    private static void levels() {
        PaddleRows rows = new PaddleRows();
        Due.due("level", rows.level(0, -9999), 10000);
        Due.due("level again", rows.level(0, 9999), 1);
        Due.due("level back", rows.level(0, 5), 19999);
        Due.due("level at the end", rows.level(39, -3), 10000);
        Due.due("level stands", rows.cell(39, 0), 9997);
        Due.due("level leaves the speed", rows.cell(39, 1), 10000);
        Due.due("level is a change", rows.count(12), 4);
    }

    private static void levelsThatAreRefused() {
        PaddleRows rows = new PaddleRows();
        Due.due("level(-1)", rows.level(-1, 0), -1);
        Due.due("level(40)", rows.level(40, 0), -1);
        Due.due("level(40, 10000)", rows.level(40, 10000), -1);
        Due.due("level(MIN)", rows.level(Integer.MIN_VALUE, 0), -1);
        Due.due("level(0, 10000)", rows.level(0, 10000), -2);
        Due.due("level(0, -10000)", rows.level(0, -10000), -2);
        Due.due("level(0, MIN)", rows.level(0, Integer.MIN_VALUE), -2);
        Due.due("refused level", Tanks.seen(rows), Tanks.seen(new PaddleRows()));
    }

    private static void cells() {
        PaddleRows rows = new PaddleRows();
        rows.level(0, 9);
        rows.level(2, 5);
        rows.level(4, -5);
        rows.level(6, 5);
        rows.level(7, 5);
        rows.level(39, -9);
        Due.due("crest", rows.cell(2, 2), 1);
        Due.due("crest is no trough", rows.cell(2, 3), 0);
        Due.due("trough", rows.cell(4, 3), 1);
        Due.due("trough is no crest", rows.cell(4, 2), 0);
        Due.due("trough at 0", rows.cell(1, 3), 1);
        Due.due("no crest of two", rows.cell(6, 2), 0);
        Due.due("no crest of two", rows.cell(7, 2), 0);
        Due.due("no crest at the left end", rows.cell(0, 2), 0);
        Due.due("no trough at the right end", rows.cell(39, 3), 0);
        Due.due("flat", rows.cell(20, 2) + rows.cell(20, 3), 0);
        Due.due("cell(-1)", rows.cell(-1, 0), -1);
        Due.due("cell(40)", rows.cell(40, 0), -1);
        Due.due("cell(40, 4)", rows.cell(40, 4), -1);
        Due.due("cell(0, 4)", rows.cell(0, 4), -2);
        Due.due("cell(0, -1)", rows.cell(0, -1), -2);
    }

    private static void speedsAndLevels() {
        PaddleRows rows = Tanks.lossless();
        rows.level(10, 100);
        Due.due("pass", rows.pass(1), 0);
        water(rows, 10, 50, -50);
        water(rows, 9, 25, 25);
        water(rows, 11, 25, 25);
        water(rows, 8, 0, 0);
        rows.pass(1);
        water(rows, 10, -12, -62);
        water(rows, 9, 50, 25);
        water(rows, 11, 50, 25);
        water(rows, 8, 6, 6);
        water(rows, 7, 0, 0);
    }

    private static void ends() {
        PaddleRows rows = Tanks.lossless();
        rows.level(0, 100);
        rows.level(39, -100);
        rows.pass(1);
        water(rows, 0, 75, -25);
        water(rows, 1, 25, 25);
        water(rows, 39, -75, 25);
        water(rows, 38, -25, -25);
    }

    private static void roundingTowardZero() {
        PaddleRows rows = Tanks.lossless();
        rows.level(10, -7);
        rows.pass(1);
        water(rows, 9, -1, -1);
        water(rows, 10, -4, 3);
        rows.set(PaddleRows.LOSS, 30);
        rows.level(9, 0);
        rows.level(10, 0);
        rows.level(11, 0);
        rows.pass(1);
        // -1 * 30 / 100 is 0, and so is 3 * 30 / 100
        water(rows, 9, -1, -1);
        water(rows, 10, 3, 3);
    }

    private static void loss() {
        PaddleRows rows = Tanks.lossless();
        rows.set(PaddleRows.LOSS, 50);
        rows.level(10, 100);
        rows.pass(1);
        water(rows, 10, 75, -25);
        water(rows, 9, 13, 13);
        PaddleRows first = new PaddleRows();
        first.level(20, 9999);
        first.pass(1);
        // -4999 loses -99; 2499 loses 49
        water(first, 20, 5099, -4900);
        water(first, 21, 2450, 2450);
    }

    private static void beach() {
        PaddleRows rows = Tanks.lossless();
        rows.set(PaddleRows.BEACH, 100);
        rows.level(36, 100);
        rows.pass(1);
        water(rows, 35, 25, 25);
        water(rows, 36, 38, -38);
        water(rows, 37, 13, 13);
        rows.level(39, 9999);
        rows.pass(1);
        water(rows, 39, 0, 0);
    }

    private static void beachRounding() {
        PaddleRows rows = Tanks.lossless();
        rows.set(PaddleRows.BEACH, 3);
        rows.level(38, 100);
        rows.pass(1);
        // 50 * 3 * 3 / 400 is 1; divided by 100 first, it would be 0
        water(rows, 38, 49, -49);
        // 25 * 3 * 4 / 400 and 25 * 3 * 2 / 400 are 0
        water(rows, 39, 25, 25);
        water(rows, 37, 25, 25);
    }

    /** Still water of one level from 30 on: nothing moves but what the beach takes. */
    private static void beachOfEachCell() {
        int[][] cases = {{100, 1000, 1000, 750, 500, 250, 0}, {80, 1000, 1000, 800, 600, 400, 200},
            {100, -999, -999, -750, -500, -250, 0}, {1, 399, 399, 399, 398, 397, 396}, {0, 999, 999, 999, 999, 999, 999},
            {1, -9999, -9999, -9975, -9950, -9925, -9900}};
        for (int[] row : cases) {
            PaddleRows rows = new PaddleRows();
            rows.set(PaddleRows.BEACH, row[0]);
            for (int cell = 30; cell < 40; cell++) {
                rows.level(cell, row[1]);
            }
            rows.pass(1);
            for (int cell = 35; cell < 40; cell++) {
                water(rows, cell, row[cell - 33], 0);
            }
        }
    }

    private static void lossBesideZero() {
        // {LOSS, a level whose quarter is the speed, the speed behind the loss}
        int[][] cases = {{50, 4, 1}, {50, 8, 1}, {50, -4, -1}, {50, -8, -1}, {50, 12, 2}, {0, 12, 3}, {1, 396, 99},
            {1, 400, 99}, {2, 196, 49}, {2, 200, 49}, {2, -196, -49}, {2, -200, -49}};
        for (int[] row : cases) {
            PaddleRows rows = new PaddleRows();
            rows.set(PaddleRows.LOSS, row[0]);
            rows.level(20, row[1]);
            rows.pass(1);
            water(rows, 19, row[2], row[2]);
            water(rows, 21, row[2], row[2]);
        }
    }

    private static void bounds() {
        PaddleRows rows = Tanks.lossless();
        rows.level(9, 9999);
        rows.level(10, -9999);
        rows.level(11, 9999);
        rows.pass(1);
        water(rows, 10, 0, 9999);
        water(rows, 9, 2500, -7499);
        rows.save(0);
        rows.pass(1);
        water(rows, 10, 9999, 9999);
        rows.restore(0);
        rows.set(PaddleRows.LOSS, 2);
        rows.pass(1);
        // 9999 + 1250 is put to 9999 before it loses 199
        water(rows, 10, 9800, 9800);
        rows.restore(0);
        rows.level(10, 5000);
        rows.pass(1);
        // 9999 + (2500 + 2500 - 10000) / 4 is 8749
        water(rows, 10, 9999, 8749);
        PaddleRows down = Tanks.lossless();
        down.level(9, -9999);
        down.level(10, 9999);
        down.level(11, -9999);
        down.pass(1);
        down.pass(1);
        water(down, 10, -9999, -9999);
    }

    private static void passing() {
        PaddleRows rows = new PaddleRows();
        Due.due("pass(1)", rows.pass(1), 0);
        Due.due("pass(99)", rows.pass(99), 0);
        Due.due("steps", rows.count(0), 100);
        Due.due("pass is a change", rows.count(12), 2);
        PaddleRows once = new PaddleRows();
        PaddleRows often = new PaddleRows();
        once.paddle(3, PaddleRows.TENT, 300, 7, 2);
        often.paddle(3, PaddleRows.TENT, 300, 7, 2);
        once.pass(6);
        for (int step = 0; step < 6; step++) {
            often.pass(1);
        }
        for (int cell = 0; cell < 40; cell++) {
            water(once, cell, Tanks.level(often, cell), Tanks.speed(often, cell));
        }
    }

    private static void passingThatIsRefused() {
        PaddleRows rows = new PaddleRows();
        Due.due("pass(0)", rows.pass(0), -2);
        Due.due("pass(-1)", rows.pass(-1), -2);
        Due.due("pass(100)", rows.pass(100), -2);
        Due.due("pass(MIN)", rows.pass(Integer.MIN_VALUE), -2);
        Due.due("pass(MAX)", rows.pass(Integer.MAX_VALUE), -2);
        Due.due("refused pass", Tanks.seen(rows), Tanks.seen(new PaddleRows()));
    }

    /** The bound is beyond the 512 calls that are promised; what stands there is tried all the same. */
    private static void boundOfSteps() {
        PaddleRows rows = new PaddleRows();
        for (int call = 0; call < 1010; call++) {
            rows.pass(99);
        }
        Due.due("steps near the bound", rows.count(0), 99990);
        Due.due("pass(10) beyond it", rows.pass(10), -5);
        Due.due("pass(100) beyond it", rows.pass(100), -2);
        Due.due("pass(9) to it", rows.pass(9), 0);
        Due.due("steps at the bound", rows.count(0), 99999);
        Due.due("pass(1) beyond it", rows.pass(1), -5);
        Due.due("reaches beyond it", rows.reaches(0, 1), -6);
        Due.due("carryOut to it", textBeyondTheBound(rows), 1);
        rows.level(0, 9999);
        Due.due("reaches beyond it", rows.reaches(1, 1), 1);
        rows.paddle(5, PaddleRows.FLAT, 400, 1, 0);
        Due.due("bestPeriod beyond it", rows.bestPeriod(0, 5, 1, 1), 204);
        rows.lift(5);
        rows.level(0, 0);
        rows.set(PaddleRows.BEACH, 100);
        rows.level(39, 3);
        Due.due("calmIn beyond it", rows.calmIn(), 1);
        Due.due("steps stay", rows.count(0), 99999);
    }

    /** An order that would go beyond the bound of steps ends the carrying out. */
    private static int textBeyondTheBound(PaddleRows rows) {
        Tanks.write(rows, "l39=0;t1;l30=5");
        int carried = rows.carryOut();
        Due.due("level behind the order that failed", rows.cell(30, 0), 10000);
        return carried;
    }

    private static void water(PaddleRows rows, int cell, int level, int speed) {
        Due.due("level of " + cell, Tanks.level(rows, cell), level);
        Due.due("speed of " + cell, Tanks.speed(rows, cell), speed);
    }
}
