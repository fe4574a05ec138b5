/** Promises 22 undo, 23 save and 24 restore. */
public final class HistoryTests {
    public static void main(String[] args) {
        everyChange();
        everythingIsUndone();
        eachAloneIsUndone();
        sixStates();
        changesThatAlterNothing();
        errorsRecordNothing();
        questionsRecordNothing();
        whatUndoLeaves();
        saving();
        savingThatIsRefused();
        restoring();
        restoringThatIsRefused();
        slotsStay();
        Due.finish();
    }

    private static void everyChange() {
        PaddleRows rows = new PaddleRows();
        Due.due("undo of nothing", rows.undo(), -5);
        rows.set(0, 5);
        Due.due("changes", rows.count(12), 1);
        rows.paddle(1, 0, 1, 1, 0);
        Due.due("changes", rows.count(12), 2);
        rows.again(1);
        Due.due("changes", rows.count(12), 3);
        rows.gauge(1);
        Due.due("changes", rows.count(12), 4);
        rows.level(1, 1);
        Due.due("changes", rows.count(12), 5);
        Due.due("undo", rows.undo(), 4);
        rows.lift(1);
        Due.due("changes", rows.count(12), 5);
        Due.due("undo", rows.undo(), 4);
        Due.due("the paddle is back", rows.count(1), 1);
        rows.pass(1);
        Due.due("changes", rows.count(12), 5);
        rows.save(0);
        rows.restore(0);
        Due.due("changes", rows.count(12), 6);
        Due.due("undo", rows.undo(), 5);
        Tanks.write(rows, "l5=5");
        rows.carryOut();
        Due.due("changes", rows.count(12), 6);
        for (int left = 5; left >= 0; left--) {
            Due.due("undo", rows.undo(), left);
        }
        Due.due("undo of nothing", rows.undo(), -5);
        Due.due("as it was", Tanks.seen(rows), Tanks.seen(new PaddleRows()));
    }

    /** What is undone is the one call, whichever it is, and none of those ahead of it. */
    private static void eachAloneIsUndone() {
        for (int kind = 0; kind < 9; kind++) {
            PaddleRows rows = Tanks.busy();
            PaddleRows twin = Tanks.busy();
            rows.save(0);
            rows.level(7, 70);
            twin.level(7, 70);
            Tanks.write(rows, "l9=5;g5");
            Due.due("change " + kind, change(rows, kind) >= 0 ? 1 : 0, 1);
            Due.due("undo of change " + kind, rows.undo(), 5);
            rows.wipe();
            Due.due("only change " + kind, Tanks.seenWithoutHistory(rows), Tanks.seenWithoutHistory(twin));
        }
    }

    private static int change(PaddleRows rows, int kind) {
        switch (kind) {
            case 0:
                return rows.set(1, 40);
            case 1:
                return rows.paddle(20, 1, 1, 1, 1);
            case 2:
                return rows.lift(1);
            case 3:
                return rows.again(4);
            case 4:
                return rows.gauge(30);
            case 5:
                return rows.level(7, -7);
            case 6:
                return rows.pass(5);
            case 7:
                return rows.carryOut();
            default:
                return rows.restore(0);
        }
    }

    private static void everythingIsUndone() {
        PaddleRows rows = Tanks.busy();
        PaddleRows twin = Tanks.busy();
        rows.set(2, 1);
        rows.paddle(1, 0, 9, 9, 9);
        rows.lift(4);
        rows.level(30, 9);
        rows.gauge(30);
        rows.pass(9);
        for (int left = 5; left >= 0; left--) {
            Due.due("undo", rows.undo(), left);
        }
        Due.due("all is as it was", Tanks.seenWithoutHistory(rows), Tanks.seenWithoutHistory(twin));
        rows.pass(2);
        twin.pass(2);
        Due.due("it goes on from there", Tanks.seenWithoutHistory(rows), Tanks.seenWithoutHistory(twin));
    }

    private static void sixStates() {
        PaddleRows rows = new PaddleRows();
        for (int call = 1; call <= 9; call++) {
            rows.level(call, call);
            Due.due("changes", rows.count(12), Math.min(call, 6));
        }
        for (int left = 5; left >= 0; left--) {
            Due.due("undo", rows.undo(), left);
            Due.due("last cell", rows.count(7), 3 + left);
        }
        Due.due("undo of what was dropped", rows.undo(), -5);
        Due.due("levels that stay", rows.places(2), 14);
        rows.level(20, 1);
        Due.due("changes", rows.count(12), 1);
        Due.due("undo", rows.undo(), 0);
        Due.due("levels that stay", rows.places(2), 14);
    }

    private static void changesThatAlterNothing() {
        PaddleRows rows = new PaddleRows();
        rows.set(0, 80);
        rows.level(5, 0);
        rows.paddle(3, 0, 1, 1, 0);
        rows.paddle(3, 0, 1, 1, 0);
        rows.again(3);
        Due.due("changes", rows.count(12), 5);
        Due.due("undo", rows.undo(), 4);
        Due.due("undo", rows.undo(), 3);
        Due.due("paddles", rows.count(1), 1);
        Due.due("undo", rows.undo(), 2);
        Due.due("paddles", rows.count(1), 0);
    }

    private static void errorsRecordNothing() {
        PaddleRows rows = new PaddleRows();
        rows.level(5, 1);
        rows.set(0, -1);
        rows.set(9, 0);
        rows.paddle(36, 0, 0, 1, 0);
        rows.paddle(0, 9, 0, 1, 0);
        rows.lift(3);
        rows.again(3);
        rows.gauge(40);
        rows.level(40, 0);
        rows.level(0, 10000);
        rows.pass(0);
        rows.carryOut();
        rows.restore(0);
        rows.restore(2);
        rows.save(2);
        Due.due("changes", rows.count(12), 1);
        Due.due("undo", rows.undo(), 0);
        Due.due("level", rows.cell(5, 0), 10000);
    }

    private static void questionsRecordNothing() {
        PaddleRows rows = new PaddleRows();
        rows.paddle(3, 0, 1, 1, 0);
        rows.cell(0, 0);
        rows.ofPaddle(0, 0);
        rows.places(0);
        rows.reaches(0, 1);
        rows.bestPeriod(0, 0, 1, 0);
        rows.calmIn();
        rows.put('x');
        rows.fault();
        rows.wipe();
        rows.save(1);
        Due.due("changes", rows.count(12), 1);
    }

    private static void whatUndoLeaves() {
        PaddleRows rows = new PaddleRows();
        rows.level(1, 1);
        Tanks.write(rows, "x1");
        rows.save(0);
        rows.level(2, 2);
        rows.save(1);
        rows.undo();
        rows.undo();
        Due.due("the pad", rows.count(11), 2);
        Due.due("the level", rows.places(2), 0);
        Due.due("slot 1", rows.restore(1), 0);
        Due.due("its levels", rows.places(2), 6);
        Due.due("slot 0", rows.restore(0), 0);
        Due.due("its levels", rows.places(2), 2);
        Due.due("undo is no change", rows.count(12), 2);
    }

    private static void saving() {
        PaddleRows rows = Tanks.busy();
        Due.due("changes", rows.count(12), 6);
        Due.due("save", rows.save(0), 2);
        rows.lift(4);
        Due.due("save", rows.save(1), 1);
        rows.lift(1);
        Due.due("save in its place", rows.save(1), 0);
        Due.due("restore", rows.restore(1), 0);
        Due.due("restore", rows.restore(0), 2);
        Due.due("all is as it was", Tanks.seenWithoutHistory(rows), Tanks.seenWithoutHistory(Tanks.busy()));
    }

    private static void savingThatIsRefused() {
        PaddleRows rows = new PaddleRows();
        int[] wrong = {-1, 2, Integer.MIN_VALUE, Integer.MAX_VALUE};
        for (int slot : wrong) {
            Due.due("save(" + slot + ")", rows.save(slot), -2);
        }
        Due.due("restore(0)", rows.restore(0), -5);
        Due.due("restore(1)", rows.restore(1), -5);
        rows.save(1);
        Due.due("restore(0)", rows.restore(0), -5);
        Due.due("restore(1)", rows.restore(1), 0);
    }

    private static void restoring() {
        PaddleRows rows = Tanks.busy();
        rows.save(1);
        rows.set(0, 1);
        rows.paddle(9, 0, 1, 1, 0);
        rows.gauge(9);
        rows.pass(7);
        Tanks.write(rows, "g1");
        PaddleRows twin = Tanks.busy();
        Tanks.write(twin, "g1");
        Due.due("restore", rows.restore(1), 2);
        Due.due("all but the history", Tanks.seenWithoutHistory(rows), Tanks.seenWithoutHistory(twin));
        Due.due("restore is a change", rows.undo(), 5);
        Due.due("paddles behind undo", rows.count(1), 3);
        Due.due("steps behind undo", rows.count(0), 15);
    }

    private static void restoringThatIsRefused() {
        PaddleRows rows = new PaddleRows();
        int[] wrong = {-1, 2, Integer.MIN_VALUE, Integer.MAX_VALUE};
        for (int slot : wrong) {
            Due.due("restore(" + slot + ")", rows.restore(slot), -2);
        }
        Due.due("restore(0)", rows.restore(0), -5);
        Due.due("changes", rows.count(12), 0);
    }

    private static void slotsStay() {
        PaddleRows rows = new PaddleRows();
        rows.paddle(3, PaddleRows.FLAT, 50, 1, 0);
        rows.save(0);
        rows.pass(3);
        rows.restore(0);
        rows.pass(5);
        rows.lift(3);
        Due.due("restore again", rows.restore(0), 1);
        Due.due("steps", rows.count(0), 0);
        Due.due("levels", rows.places(2), 0);
        rows.undo();
        rows.undo();
        rows.undo();
        rows.undo();
        Due.due("steps", rows.count(0), 3);
        Due.due("restore once more", rows.restore(0), 1);
        Due.due("steps", rows.count(0), 0);
    }
}
