import java.util.ArrayList;
import java.util.List;

/**
 * Long runs of calls, right and wrong ones, on the class and on a model of the
 * document that lives every stone, flood and softening through in order.
 */
public final class ModelTests {
    private static final long INDEX = -1001, ARGUMENT = -1002, STATE = -1003;
    private static final int RUNS = 4000, CALLS = 512, CALLS_AT_END = 258;

    /** The document once more: a list of what happened, from which every answer is found anew. */
    private static final class Model {
        private final int[][] ground = new int[16][16];
        private final List<int[]> craters = new ArrayList<>();   // x, y, radius, depth
        private final List<Integer> skills = new ArrayList<>();
        private final List<long[]> anchors = new ArrayList<>();  // years, density
        private int seed = 1;
        private int lessenings = 0;

        private static boolean in(long v, long from, long to) {
            return from <= v && v <= to;
        }

        private static boolean cell(int x, int y) {
            return in(x, 0, 15) && in(y, 0, 15);
        }

        private static int square(int[] a, int x, int y) {
            return (a[0] - x) * (a[0] - x) + (a[1] - y) * (a[1] - y);
        }

        long ground(int x, int y, int kind) {
            if (!cell(x, y)) return INDEX;
            if (!in(kind, 0, 2)) return ARGUMENT;
            int was = ground[x][y];
            ground[x][y] = kind;
            return was;
        }

        long stone(int x, int y, int size) {
            if (!cell(x, y)) return INDEX;
            if (!in(size, 1, 6)) return ARGUMENT;
            if (craters.size() == 200) return STATE;
            return fall(x, y, size);
        }

        private int fall(int x, int y, int size) {
            int radius = size;
            int depth = 4 * size;
            if (ground[x][y] == 1) {
                radius = size == 1 ? 1 : size - 1;
                depth = 3 * size;
            } else if (ground[x][y] == 2) {
                radius = size + 1;
                depth = 5 * size;
            }
            int gone = 0;
            for (int[] older : craters) {
                if (older[3] == 0) continue;
                int far = square(older, x, y);
                int both = older[2] + radius;
                if (older[2] <= radius && far <= radius * radius) {
                    older[3] = 0;
                } else if (far <= both * both) {
                    older[3] = older[3] > size ? older[3] - size : 0;
                }
                if (older[3] == 0) gone++;
            }
            craters.add(new int[] {x, y, radius, depth});
            return gone;
        }

        long draw(int x) {
            if (!in(x, 1, 65536)) return ARGUMENT;
            int was = seed;
            seed = x;
            return was;
        }

        private int next() {
            seed = (int) ((75L * seed + 74L) % 65537L);
            return seed;
        }

        long rain(int many) {
            if (!in(many, 1, 30)) return ARGUMENT;
            if (craters.size() + many > 200) return STATE;
            int[] below = {40, 52, 58, 61, 63, 64};
            for (int i = 0; i < many; i++) {
                int x = next() & 15;
                int y = next() & 15;
                int lot = next() & 63;
                int size = 1;
                while (lot >= below[size - 1]) size++;
                fall(x, y, size);
            }
            return craters.stream().filter(c -> c[3] > 0).count();
        }

        long flood(int x, int y, int toX, int toY, int thick) {
            if (!cell(x, y) || !cell(toX, toY)) return INDEX;
            if (!in(thick, 1, 40) || toX < x || toY < y) return ARGUMENT;
            if (lessenings == 100) return STATE;
            lessenings++;
            int gone = 0;
            for (int[] c : craters) {
                if (c[3] > 0 && in(c[0], x, toX) && in(c[1], y, toY)) {
                    c[3] -= thick;
                    if (c[3] <= 0) {
                        c[3] = 0;
                        gone++;
                    }
                }
            }
            return gone;
        }

        long soften(int steps) {
            if (!in(steps, 1, 40)) return ARGUMENT;
            if (lessenings == 100) return STATE;
            lessenings++;
            int gone = 0;
            int[] by = {steps / 2, steps, 2 * steps};
            for (int[] c : craters) {
                if (c[3] > 0) {
                    c[3] -= by[ground[c[0]][c[1]]];
                    if (c[3] <= 0) {
                        c[3] = 0;
                        gone++;
                    }
                }
            }
            return gone;
        }

        long eye(int skill) {
            if (!in(skill, 1, 9)) return ARGUMENT;
            if (skills.size() == 6) return STATE;
            skills.add(skill);
            return skills.size() - 1;
        }

        long anchor(long years, long density) {
            if (!in(years, 1, 5_000_000_000L) || !in(density, 1, 100_000_000L)) return ARGUMENT;
            if (anchors.size() == 8) return STATE;
            for (long[] a : anchors) {
                if (a[0] >= years || a[1] >= density) return STATE;
            }
            anchors.add(new long[] {years, density});
            return anchors.size();
        }

        long count(int eye, int x, int y, int toX, int toY, int least) {
            if (!in(eye, 0, skills.size() - 1) || !cell(x, y) || !cell(toX, toY)) return INDEX;
            if (!in(least, 1, 7) || toX < x || toY < y) return ARGUMENT;
            int seen = 0;
            for (int[] c : craters) {
                boolean there = in(c[0], x, toX) && in(c[1], y, toY);
                if (there && c[2] >= least && c[3] > 0 && c[3] >= 10 - skills.get(eye)) seen++;
            }
            return seen;
        }

        long whyNot(int eye, int x, int y, int toX, int toY) {
            long count = count(eye, x, y, toX, toY, 1);
            if (count < 0) return count;
            if (anchors.size() < 2) return 1;
            return density(count, x, y, toX, toY) > anchors.get(anchors.size() - 1)[1] ? 2 : 0;
        }

        private static long density(long count, int x, int y, int toX, int toY) {
            return count * 256000 / ((toX - x + 1) * (toY - y + 1));
        }

        long age(int eye, int x, int y, int toX, int toY) {
            long why = whyNot(eye, x, y, toX, toY);
            if (why < 0) return why;
            if (why > 0) return STATE;
            long density = density(count(eye, x, y, toX, toY, 1), x, y, toX, toY);
            if (density == 0) return 0;
            long[] first = anchors.get(0);
            if (density <= first[1]) return first[0] * density / first[1];
            int up = 1;
            while (density > anchors.get(up)[1]) up++;
            long[] low = anchors.get(up - 1);
            long[] high = anchors.get(up);
            return low[0] + (high[0] - low[0]) * (density - low[1]) / (high[1] - low[1]);
        }

        long about(int crater, int what) {
            if (!in(crater, 0, craters.size() - 1)) return INDEX;
            return in(what, 0, 3) ? craters.get(crater)[what] : ARGUMENT;
        }

        long top(int x, int y) {
            if (!cell(x, y)) return INDEX;
            int top = -1;
            for (int i = 0; i < craters.size(); i++) {
                int[] c = craters.get(i);
                if (c[3] > 0 && square(c, x, y) <= c[2] * c[2]) top = i;
            }
            return top;
        }
    }

    private static final class Dice {
        private long state;

        Dice(long seed) {
            state = seed;
        }

        int below(int many) {
            state = state * 6364136223846793005L + 1442695040888963407L;
            return (int) ((state >>> 33) % many);
        }

        int between(int from, int to) {
            return from + below(to - from + 1);
        }

        /** Mostly within the range, at times beside it or far off. */
        int about(int from, int to) {
            int lot = below(200);
            if (lot == 0) return from - 1;
            if (lot == 1) return to + 1;
            if (lot == 2) return below(2) == 0 ? Integer.MIN_VALUE : Integer.MAX_VALUE;
            if (lot < 10) return from;
            if (lot < 18) return to;
            return between(from, to);
        }
    }

    private interface Call {
        long answer();
    }

    private static long of(Call call) {
        try {
            return call.answer();
        } catch (RuntimeException e) {
            if (e.getClass() == IndexOutOfBoundsException.class) return INDEX;
            if (e.getClass() == IllegalArgumentException.class) return ARGUMENT;
            if (e.getClass() == IllegalStateException.class) return STATE;
            throw e;
        }
    }

    private static int wrong = 0;
    private static long asked = 0;
    private static final int[] ANSWERED = new int[18];

    private static void due(int run, int call, int promise, String told, long got, long want) {
        asked++;
        if (want > 0) ANSWERED[promise]++;
        if (got != want && wrong++ < 20) {
            System.out.println("run " + run + ", call " + call + ": " + told + " answered " + got + ", due is " + want);
        }
    }

    private static void callOnce(int run, int call, Dice dice, int[] lots, Craterclock c, Model m) {
        int lot = dice.below(lots[lots.length - 1]);
        int promise = 2;
        while (lot >= lots[promise - 2]) promise++;
        int x = dice.about(0, 15);
        int y = dice.about(0, 15);
        int toX = dice.below(30) == 0 ? dice.about(0, 15) : dice.about(Math.max(0, Math.min(x, 15)), 15);
        int toY = dice.below(30) == 0 ? dice.about(0, 15) : dice.about(Math.max(0, Math.min(y, 15)), 15);
        int eye = dice.about(0, Math.max(0, m.skills.size() - 1));
        int crater = dice.about(0, Math.max(0, m.craters.size() - 1));
        String field = x + ", " + y + ", " + toX + ", " + toY;
        switch (promise) {
            case 2: {
                int kind = dice.about(0, 2);
                due(run, call, promise, "ground(" + x + ", " + y + ", " + kind + ")", of(() -> c.ground(x, y, kind)), m.ground(x, y, kind));
                break;
            }
            case 3: {
                int size = dice.about(1, 6);
                due(run, call, promise, "stone(" + x + ", " + y + ", " + size + ")", of(() -> c.stone(x, y, size)), m.stone(x, y, size));
                break;
            }
            case 4: {
                int seed = dice.about(1, 65536);
                due(run, call, promise, "draw(" + seed + ")", of(() -> c.draw(seed)), m.draw(seed));
                break;
            }
            case 5: {
                int many = dice.below(3) == 0 ? dice.about(1, 30) : dice.about(1, 4);
                due(run, call, promise, "rain(" + many + ")", of(() -> c.rain(many)), m.rain(many));
                break;
            }
            case 6: {
                int thick = dice.below(4) == 0 ? dice.about(1, 40) : dice.about(1, 3);
                due(run, call, promise, "flood(" + field + ", " + thick + ")", of(() -> c.flood(x, y, toX, toY, thick)), m.flood(x, y, toX, toY, thick));
                break;
            }
            case 7: {
                int steps = dice.below(4) == 0 ? dice.about(1, 40) : dice.about(1, 3);
                due(run, call, promise, "soften(" + steps + ")", of(() -> c.soften(steps)), m.soften(steps));
                break;
            }
            case 8: {
                int skill = dice.about(1, 9);
                due(run, call, promise, "eye(" + skill + ")", of(() -> c.eye(skill)), m.eye(skill));
                break;
            }
            case 9: {
                long[] told = anchorTold(dice, m);
                due(run, call, promise, "anchor(" + told[0] + ", " + told[1] + ")", of(() -> c.anchor(told[0], told[1])), m.anchor(told[0], told[1]));
                break;
            }
            case 10: {
                int least = dice.about(1, 7);
                due(run, call, promise, "count(" + eye + ", " + field + ", " + least + ")", of(() -> c.count(eye, x, y, toX, toY, least)), m.count(eye, x, y, toX, toY, least));
                break;
            }
            case 11:
                due(run, call, promise, "age(" + eye + ", " + field + ")", of(() -> c.age(eye, x, y, toX, toY)), m.age(eye, x, y, toX, toY));
                break;
            case 12:
                due(run, call, promise, "whyNot(" + eye + ", " + field + ")", of(() -> c.whyNot(eye, x, y, toX, toY)), m.whyNot(eye, x, y, toX, toY));
                break;
            case 13:
                due(run, call, promise, "craters()", c.craters(), m.craters.size());
                break;
            case 14: {
                int what = dice.about(0, 3);
                due(run, call, promise, "about(" + crater + ", " + what + ")", of(() -> c.about(crater, what)), m.about(crater, what));
                break;
            }
            case 15:
                due(run, call, promise, "depthAnew(" + crater + ")", of(() -> c.depthAnew(crater)), m.about(crater, 3));
                break;
            case 16:
                due(run, call, promise, "top(" + x + ", " + y + ")", of(() -> c.top(x, y)), m.top(x, y));
                break;
            default:
                due(run, call, promise, "topAnew(" + x + ", " + y + ")", of(() -> c.topAnew(x, y)), m.top(x, y));
        }
    }

    private static long[] anchorTold(Dice dice, Model m) {
        if (dice.below(20) == 0) {
            return new long[] {dice.below(2) == 0 ? 5_000_000_001L : 0, dice.between(1, 100_000_000)};
        }
        if (dice.below(20) == 0) {
            return new long[] {dice.between(1, 1000), dice.below(2) == 0 ? 100_000_001L : 0};
        }
        long years = 0;
        long density = 0;
        if (!m.anchors.isEmpty()) {
            years = m.anchors.get(m.anchors.size() - 1)[0];
            density = m.anchors.get(m.anchors.size() - 1)[1];
        }
        int[] steps = {2, 1000, 100_000, 100_000_000};
        years += (long) dice.between(0, steps[dice.below(4)]) * dice.between(1, 40);
        density += dice.between(0, steps[dice.below(3)]);
        return new long[] {years, density};
    }

    /** How likely each call is, piled up; some runs are of many stones, some of many questions. */
    private static int[] lotsOf(Dice dice) {
        int[] lots = new int[16];
        int all = 0;
        for (int i = 0; i < lots.length; i++) {
            all += dice.between(1, 12);
            lots[i] = all;
        }
        return lots;
    }

    /** Every crater or every cell is asked about, one question a run: all of them are more than 512 calls. */
    private static void endOf(int run, Craterclock c, Model m) {
        int question = run / 2 % 8;
        for (int crater = 0; crater < m.craters.size() && question < 5; crater++) {
            int asked = crater;
            if (question == 4) {
                due(run, CALLS, 15, "depthAnew(" + crater + ")", of(() -> c.depthAnew(asked)), m.about(crater, 3));
            } else {
                due(run, CALLS, 14, "about(" + crater + ", " + question + ")", of(() -> c.about(asked, question)), m.about(crater, question));
            }
        }
        for (int n = 0; n < 256 && question >= 5; n++) {
            int x = n % 16;
            int y = n / 16;
            if (question == 5) {
                due(run, CALLS, 16, "top(" + x + ", " + y + ")", of(() -> c.top(x, y)), m.top(x, y));
            } else if (question == 6) {
                due(run, CALLS, 17, "topAnew(" + x + ", " + y + ")", of(() -> c.topAnew(x, y)), m.top(x, y));
            } else {
                due(run, CALLS, 2, "ground(" + x + ", " + y + ", 0)", of(() -> c.ground(x, y, 0)), m.ground(x, y, 0));
            }
        }
        due(run, CALLS, 4, "draw(1)", c.draw(1), m.draw(1));
        due(run, CALLS, 13, "craters()", c.craters(), m.craters.size());
    }

    public static void main(String[] args) {
        for (int run = 1; run <= RUNS && wrong == 0; run++) {
            Dice dice = new Dice(run);
            int[] lots = lotsOf(dice);
            Craterclock c = new Craterclock();
            Model m = new Model();
            boolean endsWithQuestions = run % 2 == 1;
            int calls = endsWithQuestions ? CALLS - CALLS_AT_END : CALLS;
            for (int call = 1; call <= calls; call++) {
                callOnce(run, call, dice, lots, c, m);
            }
            if (endsWithQuestions) {
                endOf(run, c, m);
            }
        }
        for (int promise = 2; promise <= 17; promise++) {
            if (wrong == 0 && ANSWERED[promise] < 1000) {
                wrong++;
                System.out.println("promise " + promise + " was asked too little: " + ANSWERED[promise]);
            }
        }
        System.out.println(asked + " answers, " + wrong + " of them not as due");
        if (wrong != 0) {
            System.exit(1);
        }
    }
}
