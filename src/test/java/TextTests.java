/** Promises 18 put, 19 wipe, 20 fault and 21 carryOut. */
public final class TextTests {
    public static void main(String[] args) {
        putting();
        puttingThatIsRefused();
        fullPad();
        wiping();
        textsWithoutFault();
        textsWithAFault();
        textsThatEndTooEarly();
        carryingOut();
        sortsOfPaddles();
        stoppingAtAnError();
        ordersThatFail();
        ordersTooMany();
        edgesOfNumbers();
        mostOrders();
        carryingOutThatIsRefused();
        carryingOutNothing();
        oneChange();
        longestTexts();
        Due.finish();
    }

    private static void putting() {
        PaddleRows rows = new PaddleRows();
        Due.due("put t", rows.put('t'), 1);
        Due.due("put 12", rows.put('1' << 8 | '2'), 3);
        Due.due("fault of t12", rows.fault(), -6);
        Due.due("carryOut of t12", rows.carryOut(), 1);
        Due.due("steps", rows.count(0), 12);
        Due.due("put of 8", rows.put(Tanks.packed("l39=-123")), 8);
        Due.due("carryOut of 8", rows.carryOut(), 1);
        Due.due("level", Tanks.level(rows, 39), -123);
        Due.due("least code", rows.put(33), 1);
        Due.due("greatest code", rows.put(126), 2);
        Due.due("put is no change", rows.count(12), 2);
    }

    private static void puttingThatIsRefused() {
        PaddleRows rows = new PaddleRows();
        rows.put('t');
        long[] wrong = {0, 32, 127, 128, 255, 9, -1, Long.MIN_VALUE, Long.MAX_VALUE, 't' << 8, 't' << 16 | '1',
            1L << 56 | '1', 't' << 16 | 32 << 8 | '1', 't' << 8 | 127, 0x7474747474747400L, 0x7474747474007474L,
            0x7f74747474747474L, 0x2074747474747474L, 0xf474747474747474L, 1L << 32};
        for (long characters : wrong) {
            Due.due("put(" + characters + ")", rows.put(characters), -2);
        }
        Due.due("length", rows.count(11), 1);
        Due.due("fault", rows.fault(), 1);
        Due.due("put", rows.put('5'), 2);
        Due.due("fault", rows.fault(), -6);
    }

    private static void fullPad() {
        PaddleRows rows = new PaddleRows();
        for (int call = 1; call <= 9; call++) {
            Due.due("put", rows.put(Tanks.packed("t1;t2;t3")), 8 * call);
        }
        Due.due("put", rows.put(Tanks.packed("1234567")), 79);
        Due.due("put of 2 too many", rows.put(Tanks.packed("12")), -4);
        Due.due("put of a wrong code", rows.put(Tanks.packed("1 ")), -2);
        Due.due("length", rows.count(11), 79);
        Due.due("put", rows.put('1'), 80);
        Due.due("put of 1 too many", rows.put('1'), -4);
        Due.due("put of 8 too many", rows.put(Tanks.packed("12345678")), -4);
        Due.due("put of none", rows.put(0), -2);
        Due.due("length", rows.count(11), 80);
        Due.due("wipe", rows.wipe(), 80);
        Due.due("put", rows.put('1'), 1);
    }

    private static void wiping() {
        PaddleRows rows = new PaddleRows();
        Due.due("wipe of nothing", rows.wipe(), 0);
        Tanks.write(rows, "x1;x2");
        Due.due("wipe", rows.wipe(), 5);
        Due.due("length", rows.count(11), 0);
        Due.due("fault", rows.fault(), 0);
        Due.due("wipe is no change", rows.count(12), 0);
    }

    private static void textsWithoutFault() {
        String[] texts = {"p0f0/0", "p999t-999/999+999", "p12s5/6", "p12b5/6+7", "p1f2/0+3", "x0", "x999", "g10", "t99", "t0",
            "l0=0", "l39=-0", "l999=-999", "l1=10", "x1;x2;x3", "p1f2/3+4;p1f2/3;g1;t1;l1=1;x1", "p1f2/3;x1"};
        for (String text : texts) {
            fault(text, -6);
        }
    }

    private static void textsWithAFault() {
        Object[][] texts = {{"a", 0}, {";", 0}, {"P1f2/3", 0}, {"1", 0}, {"-", 0}, {"~x1", 0}, {"x1;;", 3},
            {"x1;;x1", 3}, {"x-1", 1}, {"x01", 2}, {"x00", 2}, {"x1000", 4}, {"x9999", 4}, {"x100;", 5}, {"xx", 1},
            {"x1x", 2}, {"x1+", 2}, {"x1=1", 2}, {"g1/", 2}, {"t1.", 2}, {"g;", 1}, {"t+1", 1}, {"pf", 1},
            {"p-1f", 1}, {"p00f", 2}, {"p1x", 2}, {"p1g", 2}, {"p1F", 2}, {"p1;", 2}, {"p1f;", 3}, {"p1f/", 3},
            {"p1f+1", 3}, {"p1f--1", 4}, {"p1f-/", 4}, {"p1f01/1", 4}, {"p1f-01", 5}, {"p1f1000/", 6},
            {"p1f-1000/", 7}, {"p1f1;", 4}, {"p1f1+", 4}, {"p1f1//", 5}, {"p1f1/-1", 5}, {"p1f1/01", 6},
            {"p1f1/1000", 8}, {"p1f1/1-", 6}, {"p1f1/1++", 7}, {"p1f1/1+-1", 7}, {"p1f1/1+01", 8},
            {"p1f1/1+1000", 10}, {"p1f1/1+1+1", 8}, {"p1f1/1+;", 7}, {"l=", 1}, {"l-1=1", 1}, {"l1;", 2}, {"l1-", 2},
            {"l1==", 3}, {"l1=+1", 3}, {"l1=-;", 4}, {"l1=--1", 4}, {"l1=1000", 6}, {"l1=-1000", 7}, {"l1=00", 4},
            {"l1=1/", 4}, {"l1=1=", 4}, {"l01=1", 2}, {"l1000=1", 4}, {"x1;a", 3}, {"x1;x01", 5}, {"p1f1/1;;", 7},
            {"x1:", 2}, {"x/", 1}, {"x:", 1}};
        for (Object[] row : texts) {
            fault((String) row[0], (Integer) row[1]);
        }
    }

    private static void textsThatEndTooEarly() {
        String[] texts = {"", "p", "p1", "p12f", "p12f-", "p12f3", "p12f-345", "p1f1/", "p1f1/2+", "x", "g", "t", "l",
            "l1", "l12=", "l12=-", "x1;", "x1;x", "p1f2/3;", "p1f2/3+4;l"};
        for (String text : texts) {
            fault(text, text.length());
        }
    }

    private static void fault(String text, int due) {
        PaddleRows rows = new PaddleRows();
        Tanks.write(rows, text);
        Due.due("fault of " + text, rows.fault(), due);
        Due.due("fault of " + text + " again", rows.fault(), due);
        Due.due("length of " + text, rows.count(11), text.length());
        Due.due("changes of " + text, rows.count(12), 0);
        if (due != -6) {
            Due.due("carryOut of " + text, rows.carryOut(), -3);
            Due.due("length of " + text, rows.count(11), text.length());
            Due.due("changes of " + text, rows.count(12), 0);
        }
    }

    private static void carryingOut() {
        PaddleRows rows = new PaddleRows();
        Tanks.write(rows, "p7s-120/13+5;g3;l20=-45;p8f9/1;t3;x8");
        Due.due("carryOut", rows.carryOut(), 6);
        PaddleRows twin = new PaddleRows();
        twin.paddle(7, PaddleRows.SAW, -120, 13, 5);
        twin.gauge(3);
        twin.level(20, -45);
        twin.paddle(8, PaddleRows.FLAT, 9, 1, 0);
        twin.pass(3);
        twin.lift(8);
        Due.due("length", rows.count(11), 0);
        Due.due("changes", rows.count(12), 1);
        for (int cell = 0; cell < 40; cell++) {
            Due.due("level of " + cell, rows.cell(cell, 0), twin.cell(cell, 0));
        }
        for (int what = 0; what < 7; what++) {
            Due.due("paddle " + what, rows.ofPaddle(0, what), twin.ofPaddle(0, what));
        }
        Due.due("notes", rows.ofGauge(0, 1), 3);
    }

    private static void sortsOfPaddles() {
        PaddleRows rows = new PaddleRows();
        Tanks.write(rows, "p0f1/2+3;p1s-1/3+4;p2b2/4+5;p3t-2/5;p4t0/60+59");
        Due.due("carryOut", rows.carryOut(), 5);
        int[][] due = {{0, 0, 1001, 2, 3}, {1, 1, 999, 3, 4}, {2, 2, 1002, 4, 5}, {3, 3, 998, 5, 0}, {4, 3, 1000, 60, 59}};
        for (int rank = 0; rank < due.length; rank++) {
            for (int what = 0; what < 5; what++) {
                Due.due("ofPaddle(" + rank + ", " + what + ")", rows.ofPaddle(rank, what), due[rank][what]);
            }
        }
    }

    private static void stoppingAtAnError() {
        PaddleRows rows = new PaddleRows();
        Tanks.write(rows, "l1=5;l2=6;x3;l4=7");
        Due.due("carryOut", rows.carryOut(), 2);
        Due.due("ahead of the error", rows.places(2), 6);
        Due.due("length", rows.count(11), 0);
        Due.due("changes", rows.count(12), 1);
        Due.due("undo", rows.undo(), 0);
        Due.due("all is undone", rows.places(2), 0);
    }

    private static void ordersThatFail() {
        String[] texts = {"p36f1/1", "p0f1/0", "p0f1/61", "p0f1/1+60", "x1", "x999", "g40", "t0", "t100", "t999",
            "l40=1", "l999=1"};
        for (String text : texts) {
            PaddleRows rows = new PaddleRows();
            Tanks.write(rows, text + ";l1=1");
            Due.due("fault of " + text, rows.fault(), -6);
            Due.due("carryOut of " + text, rows.carryOut(), 0);
            PaddleRows twin = new PaddleRows();
            twin.set(PaddleRows.BEACH, 80);
            Due.due("nothing but a change behind " + text, Tanks.seen(rows), Tanks.seen(twin));
        }
    }

    private static void ordersTooMany() {
        PaddleRows rows = new PaddleRows();
        PaddleRows twin = new PaddleRows();
        Tanks.write(rows, "g1;g1;g1;g1;g1;l1=1");
        Due.due("too many gauges", rows.carryOut(), 4);
        Tanks.write(rows, "p0f1/1;p1f1/1;p2f1/1;p3f1/1;p4f1/1;p5f1/1;p5f2/1;p6f1/1;p5f3/1");
        Due.due("too many paddles", rows.carryOut(), 7);
        Tanks.write(twin, "g1;g1;g1;g1");
        twin.carryOut();
        Tanks.write(twin, "p0f1/1;p1f1/1;p2f1/1;p3f1/1;p4f1/1;p5f2/1");
        twin.carryOut();
        Due.due("nothing of those too many", Tanks.seen(rows), Tanks.seen(twin));
    }

    private static void edgesOfNumbers() {
        PaddleRows rows = new PaddleRows();
        Tanks.write(rows, "l0=999;l1=-999;l2=0;l3=-0;l39=1;p0f-999/1;p35b999/60+59;g0;g39;t1;t99");
        Due.due("carryOut", rows.carryOut(), 11);
        PaddleRows twin = new PaddleRows();
        twin.level(0, 999);
        twin.level(1, -999);
        twin.level(39, 1);
        twin.paddle(0, PaddleRows.FLAT, -999, 1, 0);
        twin.paddle(35, PaddleRows.BOX, 999, 60, 59);
        twin.gauge(0);
        twin.gauge(39);
        twin.pass(1);
        twin.pass(99);
        Due.due("all but the history", Tanks.seenWithoutHistory(rows), Tanks.seenWithoutHistory(twin));
    }

    private static void carryingOutThatIsRefused() {
        PaddleRows rows = new PaddleRows();
        Due.due("carryOut of nothing", rows.carryOut(), -3);
        Tanks.write(rows, "l1=5;l2=6;");
        Due.due("carryOut of a fault at the end", rows.carryOut(), -3);
        Due.due("nothing is carried out", rows.places(2), 0);
        Due.due("length", rows.count(11), 10);
        Due.due("changes", rows.count(12), 0);
        Tanks.write(rows, "l3=7");
        Due.due("carryOut of the mended text", rows.carryOut(), 3);
        Due.due("carryOut again", rows.carryOut(), -3);
    }

    private static void carryingOutNothing() {
        PaddleRows rows = new PaddleRows();
        rows.level(3, 4);
        Tanks.write(rows, "x0");
        Due.due("carryOut", rows.carryOut(), 0);
        Due.due("a change all the same", rows.count(12), 2);
        Due.due("undo", rows.undo(), 1);
        Due.due("undo", rows.undo(), 0);
        Due.due("level", rows.places(2), 0);
    }

    private static void oneChange() {
        PaddleRows rows = new PaddleRows();
        Tanks.write(rows, "l1=1;l2=2;l3=3;l4=4;l5=5;l6=6;l7=7;l8=8");
        Due.due("carryOut", rows.carryOut(), 8);
        Due.due("changes", rows.count(12), 1);
        Due.due("levels", rows.places(2), 510);
        Tanks.write(rows, "x1");
        Due.due("undo", rows.undo(), 0);
        Due.due("levels", rows.places(2), 0);
        Due.due("the pad stays", rows.count(11), 2);
    }

    /** The most orders of the most steps that a pad holds. */
    private static void mostOrders() {
        PaddleRows rows = new PaddleRows();
        StringBuilder text = new StringBuilder("t99");
        for (int order = 1; order < 20; order++) {
            text.append(";t99");
        }
        Due.due("put", Tanks.write(rows, text.toString()), 79);
        Due.due("carryOut", rows.carryOut(), 20);
        Due.due("steps", rows.count(0), 1980);
        text.setLength(0);
        text.append("g0");
        for (int order = 1; order < 26; order++) {
            text.append(";x9");
        }
        Due.due("put", Tanks.write(rows, text.toString()), 77);
        Due.due("put", Tanks.write(rows, ";t7"), 80);
        Due.due("carryOut up to the first error", rows.carryOut(), 1);
        Due.due("gauges", rows.count(3), 1);
        Due.due("steps", rows.count(0), 1980);
    }

    private static void longestTexts() {
        PaddleRows rows = new PaddleRows();
        StringBuilder text = new StringBuilder("g39");
        for (int order = 0; order < 25; order++) {
            text.append(";t1");
        }
        text.append(";");
        Due.due("put", Tanks.write(rows, text.toString()), 79);
        Due.due("fault", rows.fault(), 79);
        Due.due("put", rows.put('t'), 80);
        Due.due("fault", rows.fault(), 80);
        rows.wipe();
        text.setLength(78);
        Due.due("put", Tanks.write(rows, text.toString()), 78);
        Due.due("put", rows.put('2'), 79);
        Due.due("put", rows.put('3'), 80);
        Due.due("fault", rows.fault(), -6);
        Due.due("carryOut", rows.carryOut(), 25);
        Due.due("steps", rows.count(0), 24);
    }
}
