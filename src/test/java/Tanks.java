/** What several tests need of a tank: to write texts, to still its water, to see all of it. */
final class Tanks {
    private Tanks() {
    }

    /** A tank whose water neither loses a part of its speed nor meets a beach. */
    static PaddleRows lossless() {
        PaddleRows rows = new PaddleRows();
        rows.set(PaddleRows.BEACH, 0);
        rows.set(PaddleRows.LOSS, 0);
        return rows;
    }

    /** A tank in motion, with a paddle that stopped, a gauge, and settings of its own. */
    static PaddleRows busy() {
        PaddleRows rows = new PaddleRows();
        rows.set(PaddleRows.BEACH, 33);
        rows.set(PaddleRows.LOSS, 1);
        rows.paddle(1, PaddleRows.SAW, 499, 9, 0);
        rows.paddle(4, PaddleRows.BOX, -200, 4, 1);
        rows.gauge(2);
        rows.level(4, 700);
        rows.pass(8);
        return rows;
    }

    static long packed(String characters) {
        long number = 0;
        for (int i = 0; i < characters.length(); i++) {
            number = number << 8 | characters.charAt(i);
        }
        return number;
    }

    /** Appends a text to the pad; the last answer, or the first error. */
    static int write(PaddleRows rows, String text) {
        int answer = 0;
        for (int i = 0; i < text.length() && answer >= 0; i += 8) {
            answer = rows.put(packed(text.substring(i, Math.min(i + 8, text.length()))));
        }
        return answer;
    }

    static int level(PaddleRows rows, int cell) {
        return rows.cell(cell, 0) - 10000;
    }

    static int speed(PaddleRows rows, int cell) {
        return rows.cell(cell, 1) - 10000;
    }

    /** Everything that can be asked without a change, as a text. Some 400 calls at most. */
    static String seen(PaddleRows rows) {
        StringBuilder all = new StringBuilder();
        for (int cell = 0; cell < 40; cell++) {
            all.append(level(rows, cell)).append('/').append(speed(rows, cell)).append(' ');
        }
        for (int rank = 0; rank < rows.count(1); rank++) {
            for (int what = 0; what < 7; what++) {
                all.append(rows.ofPaddle(rank, what)).append(what < 6 ? "," : " ");
            }
        }
        for (int gauge = 0; gauge < rows.count(3); gauge++) {
            all.append("g").append(rows.ofGauge(gauge, 0)).append(':');
            for (int ago = 0; ago < rows.ofGauge(gauge, 1) && ago < 12; ago++) {
                all.append(rows.noted(gauge, ago)).append(',');
            }
        }
        for (int what = 0; what < 13; what++) {
            all.append(" c").append(rows.count(what));
        }
        return all.append(" f").append(rows.fault()).toString();
    }

    static String seenWithoutHistory(PaddleRows rows) {
        String seen = seen(rows);
        int changes = seen.lastIndexOf(" c");
        int fault = seen.lastIndexOf(" f");
        return seen.substring(0, changes) + seen.substring(fault);
    }
}
