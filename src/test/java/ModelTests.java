import java.util.Random;

/** Long runs of calls, the same ones each time, on the class and on PlainTank: each answer has to be the same. */
public final class ModelTests {
    private static final int RUNS = 1200;
    private static final int CALLS = 250;
    private static final int[] STRANGE = {-1, Integer.MIN_VALUE, Integer.MAX_VALUE, 40, 36, 60, 100, 10000, -10000};

    private final Random random;
    private final PaddleRows rows = new PaddleRows();
    private final PlainTank plain = new PlainTank();
    private final StringBuilder calls = new StringBuilder();
    private int wrong;

    private ModelTests(int run) {
        random = new Random(run);
    }

    public static void main(String[] args) {
        for (int run = 0; run < RUNS; run++) {
            ModelTests test = new ModelTests(run);
            for (int call = 0; call < CALLS && test.wrong == 0; call++) {
                test.oneCall();
            }
            test.wholeWater();
        }
        Due.finish();
    }

    private void wholeWater() {
        for (int cell = 0; cell < 40; cell++) {
            same("cell " + cell, rows.cell(cell, 0), plain.cell(cell, 0));
            same("cell " + cell, rows.cell(cell, 1), plain.cell(cell, 1));
        }
    }

    private void same(String call, long got, long want) {
        calls.append(call).append(' ');
        Due.due(call, got, want);
        if (got != want) {
            wrong++;
            System.out.println("the calls: " + calls);
        }
    }

    /** Mostly a number from least to greatest, sometimes an edge of that or a strange one. */
    private int number(int least, int greatest) {
        int choice = random.nextInt(40);
        if (choice == 0) {
            return STRANGE[random.nextInt(STRANGE.length)];
        }
        if (choice == 1) {
            return random.nextBoolean() ? least - 1 : greatest + 1;
        }
        if (choice < 5) {
            return random.nextBoolean() ? least : greatest;
        }
        return least + random.nextInt(greatest - least + 1);
    }

    private int cell() {
        return random.nextInt(3) == 0 ? number(0, 39) : number(0, 7);
    }

    private void oneCall() {
        int kind = random.nextInt(100);
        if (kind < 45) {
            change(kind);
        } else if (kind < 80) {
            question(kind - 45);
        } else if (kind < 95) {
            text(kind - 80);
        } else {
            whatIf(kind - 95);
        }
    }

    private void change(int kind) {
        int a = cell();
        if (kind < 8) {
            int b = number(0, 3);
            int c = number(-999, 999);
            int d = number(1, 60);
            int e = number(0, 59);
            same("paddle " + a + " " + b + " " + c + " " + d + " " + e, rows.paddle(a, b, c, d, e),
                plain.paddle(a, b, c, d, e));
        } else if (kind < 20) {
            int b = random.nextInt(3) == 0 ? number(1, 99) : number(1, 5);
            same("pass " + b, rows.pass(b), plain.pass(b));
        } else if (kind < 27) {
            int b = random.nextInt(3) == 0 ? number(-9999, 9999) : number(-600, 600);
            same("level " + a + " " + b, rows.level(a, b), plain.level(a, b));
        } else if (kind < 30) {
            int setting = number(0, 2);
            int value = setting == 2 ? number(1, 1500) : number(0, setting == 0 ? 100 : 50);
            same("set " + setting + " " + value, rows.set(setting, value), plain.set(setting, value));
        } else if (kind < 33) {
            same("lift " + a, rows.lift(a), plain.lift(a));
        } else if (kind < 36) {
            same("again " + a, rows.again(a), plain.again(a));
        } else if (kind < 38) {
            same("gauge " + a, rows.gauge(a), plain.gauge(a));
        } else if (kind < 41) {
            same("undo", rows.undo(), plain.undo());
        } else if (kind < 43) {
            int slot = number(0, 1);
            same("save " + slot, rows.save(slot), plain.save(slot));
        } else {
            int slot = number(0, 1);
            same("restore " + slot, rows.restore(slot), plain.restore(slot));
        }
    }

    private void question(int kind) {
        int a = cell();
        if (kind < 8) {
            int what = number(0, 3);
            same("cell " + a + " " + what, rows.cell(a, what), plain.cell(a, what));
        } else if (kind < 14) {
            int rank = number(0, 5);
            int what = number(0, 6);
            same("ofPaddle " + rank + " " + what, rows.ofPaddle(rank, what), plain.ofPaddle(rank, what));
        } else if (kind < 18) {
            int gauge = number(0, 3);
            int what = number(0, 4);
            same("ofGauge " + gauge + " " + what, rows.ofGauge(gauge, what), plain.ofGauge(gauge, what));
        } else if (kind < 22) {
            int gauge = number(0, 3);
            int ago = number(0, 59);
            same("noted " + gauge + " " + ago, rows.noted(gauge, ago), plain.noted(gauge, ago));
        } else if (kind < 26) {
            int what = number(0, 4);
            same("places " + what, rows.places(what), plain.places(what));
        } else {
            int what = number(0, 12);
            same("count " + what, rows.count(what), plain.count(what));
        }
    }

    private void whatIf(int kind) {
        int a = cell();
        if (kind < 2) {
            int far = random.nextBoolean() ? number(1, 300) : number(1, 9999);
            same("reaches " + a + " " + far, rows.reaches(a, far), plain.reaches(a, far));
        } else if (kind < 4) {
            int rank = number(0, 3);
            int steps = random.nextInt(5) == 0 ? number(1, 99) : number(1, 9);
            int what = number(0, 1);
            same("bestPeriod " + rank + " " + a + " " + steps + " " + what, rows.bestPeriod(rank, a, steps, what),
                plain.bestPeriod(rank, a, steps, what));
        } else {
            same("calmIn", rows.calmIn(), plain.calmIn());
        }
    }

    private void text(int kind) {
        if (kind < 8) {
            putOrder();
        } else if (kind < 10) {
            same("fault", rows.fault(), plain.fault());
        } else if (kind < 13) {
            same("carryOut", rows.carryOut(), plain.carryOut());
        } else if (kind < 14) {
            same("wipe", rows.wipe(), plain.wipe());
        } else {
            long characters = random.nextBoolean() ? random.nextLong() : 33 + random.nextInt(94);
            same("put " + characters, rows.put(characters), plain.put(characters));
        }
    }

    private void putOrder() {
        if (plain.count(11) > 50) {
            same("wipe", rows.wipe(), plain.wipe());
        }
        StringBuilder text = new StringBuilder(plain.count(11) > 0 && random.nextInt(12) != 0 ? ";" : "");
        text.append(order());
        if (random.nextInt(25) == 0) {
            text.insert(random.nextInt(text.length() + 1), "p0f-/+xgtl=;1sb".charAt(random.nextInt(15)));
        }
        for (int i = 0; i < text.length(); i += 8) {
            long characters = Tanks.packed(text.substring(i, Math.min(i + 8, text.length())));
            same("put " + text, rows.put(characters), plain.put(characters));
        }
        same("fault", rows.fault(), plain.fault());
    }

    private String order() {
        int cell = random.nextInt(12) == 0 ? random.nextInt(999) : random.nextInt(8);
        int value = random.nextInt(1999) - 999;
        switch (random.nextInt(8)) {
            case 0:
                return "x" + cell;
            case 1:
                return "g" + cell;
            case 2:
            case 3:
                return "t" + random.nextInt(12);
            case 4:
            case 5:
                return "l" + cell + "=" + value;
            default:
                String phase = random.nextBoolean() ? "" : "+" + random.nextInt(61);
                return "p" + cell + "fsbt".charAt(random.nextInt(4)) + value + "/" + random.nextInt(62) + phase;
        }
    }
}
