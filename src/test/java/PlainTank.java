import java.util.ArrayList;
import java.util.List;
import java.util.TreeMap;
import java.util.regex.Matcher;
import java.util.regex.Pattern;

/** The document once more, written for plainness alone: ModelTests compares its answers with the class's. */
final class PlainTank {
    private static final String NUMBER = "(?:0|[1-9][0-9]{0,2})";
    private static final String ORDER = "(?:p" + NUMBER + "[fsbt]-?" + NUMBER + "/" + NUMBER + "(?:\\+" + NUMBER
        + ")?|[xgt]" + NUMBER + "|l" + NUMBER + "=-?" + NUMBER + ")";
    private static final Pattern TEXT = Pattern.compile(ORDER + "(?:;" + ORDER + ")*");
    private static final Pattern PADDLE = Pattern.compile("p(\\d+)([fsbt])(-?\\d+)/(\\d+)(?:\\+(\\d+))?");

    private static final class Paddle {
        int sort;
        int height;
        int period;
        int phase;
        boolean stopped;

        int push(int steps) {
            int t = (steps + phase) % period;
            int d = t < period - t ? t : period - t;
            int[] pushes = {height, height * (2 * t - period) / period, 2 * t < period ? height : -height,
                height * (4 * d - period) / period};
            return pushes[sort];
        }
    }

    private static final class Gauge {
        int cell;
        List<Integer> notes = new ArrayList<>();
    }

    private static final class State {
        int[] settings = {80, 2, 500};
        int[] levels = new int[40];
        int[] speeds = new int[40];
        TreeMap<Integer, Paddle> paddles = new TreeMap<>();
        List<Gauge> gauges = new ArrayList<>();
        int steps;

        State copy() {
            State other = new State();
            other.settings = settings.clone();
            other.levels = levels.clone();
            other.speeds = speeds.clone();
            for (int cell : paddles.keySet()) {
                Paddle from = paddles.get(cell);
                Paddle to = new Paddle();
                to.sort = from.sort;
                to.height = from.height;
                to.period = from.period;
                to.phase = from.phase;
                to.stopped = from.stopped;
                other.paddles.put(cell, to);
            }
            for (Gauge from : gauges) {
                Gauge to = new Gauge();
                to.cell = from.cell;
                to.notes = new ArrayList<>(from.notes);
                other.gauges.add(to);
            }
            other.steps = steps;
            return other;
        }

        int step() {
            int stopped = 0;
            for (int cell : paddles.keySet()) {
                Paddle paddle = paddles.get(cell);
                if (paddle.stopped) {
                    continue;
                }
                if (Math.abs(levels[cell]) > settings[2]) {
                    paddle.stopped = true;
                    stopped++;
                } else {
                    levels[cell] = paddle.push(steps);
                }
            }
            for (int cell = 0; cell < 40; cell++) {
                int left = levels[cell == 0 ? 0 : cell - 1];
                int right = levels[cell == 39 ? 39 : cell + 1];
                speeds[cell] = bounded(speeds[cell] + (left + right - 2 * levels[cell]) / 4);
                speeds[cell] = bounded(speeds[cell] - speeds[cell] * settings[1] / 100);
            }
            for (int cell = 0; cell < 40; cell++) {
                levels[cell] = bounded(levels[cell] + speeds[cell]);
            }
            for (int cell = 36; cell <= 39; cell++) {
                levels[cell] = levels[cell] - levels[cell] * settings[0] * (cell - 35) / 400;
                speeds[cell] = speeds[cell] - speeds[cell] * settings[0] * (cell - 35) / 400;
            }
            steps++;
            for (Gauge gauge : gauges) {
                gauge.notes.add(0, levels[gauge.cell]);
                while (gauge.notes.size() > 60) {
                    gauge.notes.remove(60);
                }
            }
            return stopped;
        }

        private static int bounded(int number) {
            return number > 9999 ? 9999 : number < -9999 ? -9999 : number;
        }
    }

    private State state = new State();
    private List<State> history = new ArrayList<>();
    private final State[] slots = new State[2];
    private String pad = "";

    private void record(State before) {
        history.add(before);
        while (history.size() > 6) {
            history.remove(0);
        }
    }

    private int changed(State before, int answer) {
        if (answer >= 0) {
            record(before);
        }
        return answer;
    }

    int set(int setting, int value) {
        int[][] ranges = {{0, 100}, {0, 50}, {1, 9999}};
        if (setting < 0 || setting > 2 || value < ranges[setting][0] || value > ranges[setting][1]) {
            return -2;
        }
        record(state.copy());
        int previous = state.settings[setting];
        state.settings[setting] = value;
        return previous;
    }

    private int orderPaddle(int cell, int sort, int height, int period, int phase) {
        if (cell < 0 || cell > 35) {
            return -1;
        }
        if (sort < 0 || sort > 3 || height < -999 || height > 999 || period < 1 || period > 60 || phase < 0
            || phase > 59) {
            return -2;
        }
        if (state.paddles.size() == 6 && !state.paddles.containsKey(cell)) {
            return -4;
        }
        Paddle paddle = new Paddle();
        paddle.sort = sort;
        paddle.height = height;
        paddle.period = period;
        paddle.phase = phase;
        state.paddles.put(cell, paddle);
        return state.paddles.size();
    }

    int paddle(int cell, int sort, int height, int period, int phase) {
        return changed(state.copy(), orderPaddle(cell, sort, height, period, phase));
    }

    private int orderLift(int cell) {
        return state.paddles.remove(cell) == null ? -1 : state.paddles.size();
    }

    int lift(int cell) {
        return changed(state.copy(), orderLift(cell));
    }

    int again(int cell) {
        if (!state.paddles.containsKey(cell)) {
            return -1;
        }
        record(state.copy());
        int stopped = state.paddles.get(cell).stopped ? 1 : 0;
        state.paddles.get(cell).stopped = false;
        return stopped;
    }

    private int orderGauge(int cell) {
        if (cell < 0 || cell > 39) {
            return -1;
        }
        if (state.gauges.size() == 4) {
            return -4;
        }
        Gauge gauge = new Gauge();
        gauge.cell = cell;
        state.gauges.add(gauge);
        return state.gauges.size() - 1;
    }

    int gauge(int cell) {
        return changed(state.copy(), orderGauge(cell));
    }

    private int orderLevel(int cell, int level) {
        if (cell < 0 || cell > 39) {
            return -1;
        }
        if (level < -9999 || level > 9999) {
            return -2;
        }
        int previous = state.levels[cell] + 10000;
        state.levels[cell] = level;
        return previous;
    }

    int level(int cell, int level) {
        return changed(state.copy(), orderLevel(cell, level));
    }

    private int orderPass(int steps) {
        if (steps < 1 || steps > 99) {
            return -2;
        }
        if (state.steps > 99999 - steps) {
            return -5;
        }
        int stopped = 0;
        for (int step = 0; step < steps; step++) {
            stopped += state.step();
        }
        return stopped;
    }

    int pass(int steps) {
        return changed(state.copy(), orderPass(steps));
    }

    int cell(int cell, int what) {
        if (cell < 0 || cell > 39) {
            return -1;
        }
        if (what < 0 || what > 3) {
            return -2;
        }
        if (what < 2) {
            return 10000 + (what == 0 ? state.levels[cell] : state.speeds[cell]);
        }
        if (cell == 0 || cell == 39) {
            return 0;
        }
        int sign = what == 2 ? 1 : -1;
        int own = sign * state.levels[cell];
        return own > sign * state.levels[cell - 1] && own > sign * state.levels[cell + 1] ? 1 : 0;
    }

    private int cellOfRank(int rank) {
        return rank < 0 || rank >= state.paddles.size() ? -1 : new ArrayList<>(state.paddles.keySet()).get(rank);
    }

    int ofPaddle(int rank, int what) {
        int cell = cellOfRank(rank);
        if (cell < 0) {
            return -1;
        }
        if (what < 0 || what > 6) {
            return -2;
        }
        Paddle paddle = state.paddles.get(cell);
        int[] answers = {cell, paddle.sort, paddle.height + 1000, paddle.period, paddle.phase, paddle.stopped ? 0 : 1,
            paddle.push(state.steps) + 1000};
        return answers[what];
    }

    int ofGauge(int gauge, int what) {
        if (gauge < 0 || gauge >= state.gauges.size()) {
            return -1;
        }
        if (what < 0 || what > 4) {
            return -2;
        }
        Gauge asked = state.gauges.get(gauge);
        List<Integer> notes = asked.notes;
        int greatest = -6;
        int least = -6;
        int rises = 0;
        for (int i = 0; i < notes.size(); i++) {
            int note = notes.get(i) + 10000;
            greatest = i == 0 || note > greatest ? note : greatest;
            least = i == 0 || note < least ? note : least;
            rises += i > 0 && notes.get(i - 1) >= 0 && notes.get(i) < 0 ? 1 : 0;
        }
        int[] answers = {asked.cell, notes.size(), greatest, least, rises};
        return answers[what];
    }

    int noted(int gauge, int ago) {
        if (gauge < 0 || gauge >= state.gauges.size() || ago < 0 || ago >= state.gauges.get(gauge).notes.size()) {
            return -1;
        }
        return state.gauges.get(gauge).notes.get(ago) + 10000;
    }

    long places(int what) {
        if (what < 0 || what > 4) {
            return -2;
        }
        long cells = 0;
        for (int cell = 0; cell < 40; cell++) {
            boolean[] in = {cell(cell, 2) == 1, cell(cell, 3) == 1, state.levels[cell] != 0,
                state.paddles.containsKey(cell), state.paddles.containsKey(cell) && state.paddles.get(cell).stopped};
            if (in[what]) {
                cells += 1L << cell;
            }
        }
        return cells;
    }

    int count(int what) {
        int sum = 1000000;
        int motion = 0;
        int greatest = 0;
        int last = -6;
        for (int cell = 0; cell < 40; cell++) {
            sum += state.levels[cell];
            motion += Math.abs(state.levels[cell]) + Math.abs(state.speeds[cell]);
            greatest = Math.max(greatest, Math.abs(state.levels[cell]));
            last = state.levels[cell] != 0 ? cell : last;
        }
        int stopped = 0;
        for (Paddle paddle : state.paddles.values()) {
            stopped += paddle.stopped ? 1 : 0;
        }
        int[] answers = {state.steps, state.paddles.size(), stopped, state.gauges.size(), sum, motion, greatest, last,
            state.settings[0], state.settings[1], state.settings[2], pad.length(), history.size()};
        return what < 0 || what >= answers.length ? -2 : answers[what];
    }

    int reaches(int cell, int far) {
        if (cell < 0 || cell > 39) {
            return -1;
        }
        if (far < 1 || far > 9999) {
            return -2;
        }
        State trial = state.copy();
        for (int steps = 0; steps <= 500; steps++) {
            if (trial.levels[cell] >= far || trial.levels[cell] <= -far) {
                return steps;
            }
            trial.step();
        }
        return -6;
    }

    int bestPeriod(int rank, int cell, int steps, int what) {
        int paddle = cellOfRank(rank);
        if (paddle < 0 || cell < 0 || cell > 39) {
            return -1;
        }
        if (steps < 1 || steps > 99 || what < 0 || what > 1) {
            return -2;
        }
        int[] best = {0, -1};
        for (int period = 60; period >= 1; period--) {
            State trial = state.copy();
            trial.paddles.get(paddle).period = period;
            int peak = 0;
            for (int step = 0; step < steps; step++) {
                trial.step();
                peak = Math.max(peak, Math.abs(trial.levels[cell]));
            }
            if (peak >= best[1]) {
                best = new int[] {period, peak};
            }
        }
        return best[what];
    }

    int calmIn() {
        State trial = state.copy();
        trial.paddles.clear();
        for (int steps = 0; steps <= 500; steps++) {
            boolean calm = true;
            for (int cell = 0; cell < 40; cell++) {
                calm = calm && trial.levels[cell] == 0 && trial.speeds[cell] == 0;
            }
            if (calm) {
                return steps;
            }
            trial.step();
        }
        return -6;
    }

    int put(long characters) {
        StringBuilder text = new StringBuilder();
        boolean ended = false;
        for (int shift = 0; shift < 64; shift += 8) {
            int code = (int) (characters >>> shift & 0xff);
            ended = ended || code == 0;
            if (ended ? code != 0 : code < 33 || code > 126) {
                return -2;
            }
            if (!ended) {
                text.insert(0, (char) code);
            }
        }
        if (text.length() == 0) {
            return -2;
        }
        if (pad.length() + text.length() > 80) {
            return -4;
        }
        pad += text;
        return pad.length();
    }

    int wipe() {
        int length = pad.length();
        pad = "";
        return length;
    }

    /** A character can stand at its place if the text up to it is, or can become, a whole one. */
    int fault() {
        for (int end = 1; end <= pad.length(); end++) {
            Matcher matcher = TEXT.matcher(pad.substring(0, end));
            if (!matcher.matches() && !matcher.hitEnd()) {
                return end - 1;
            }
        }
        return TEXT.matcher(pad).matches() ? -6 : pad.length();
    }

    int carryOut() {
        if (fault() != -6) {
            return -3;
        }
        record(state.copy());
        int carried = 0;
        for (String order : pad.split(";")) {
            if (carryOut(order) < 0) {
                break;
            }
            carried++;
        }
        pad = "";
        return carried;
    }

    private int carryOut(String order) {
        Matcher paddle = PADDLE.matcher(order);
        if (paddle.matches()) {
            int phase = paddle.group(5) == null ? 0 : Integer.parseInt(paddle.group(5));
            return orderPaddle(Integer.parseInt(paddle.group(1)), "fsbt".indexOf(paddle.group(2)),
                Integer.parseInt(paddle.group(3)), Integer.parseInt(paddle.group(4)), phase);
        }
        String[] numbers = order.substring(1).split("=");
        int first = Integer.parseInt(numbers[0]);
        switch (order.charAt(0)) {
            case 'x':
                return orderLift(first);
            case 'g':
                return orderGauge(first);
            case 't':
                return orderPass(first);
            default:
                return orderLevel(first, Integer.parseInt(numbers[1]));
        }
    }

    int undo() {
        if (history.isEmpty()) {
            return -5;
        }
        state = history.remove(history.size() - 1);
        return history.size();
    }

    int save(int slot) {
        if (slot < 0 || slot > 1) {
            return -2;
        }
        slots[slot] = state.copy();
        return state.paddles.size();
    }

    int restore(int slot) {
        if (slot < 0 || slot > 1) {
            return -2;
        }
        if (slots[slot] == null) {
            return -5;
        }
        record(state);
        state = slots[slot].copy();
        return state.paddles.size();
    }
}
