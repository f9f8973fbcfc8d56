import java.util.ArrayList;
import java.util.List;

/**
 * "If several apply, the one that is named first in the throws clause is thrown; a call that throws changes nothing."
 * Each method with each argument at both ends of its range and just beyond them, in every mixture of these, on an
 * object that is new, one that is in use and one that is full.
 */
public final class RefusalTests {
    private static final int[] CELL = {-1, 0, 15, 16};
    private static final Check CHECK = new Check();

    /** Calls of one kind on one kind of object; those that are due to throw are gathered and then made on one object. */
    private static final class Calls {
        private final Check.Made made;
        private final int atOnce;
        private final List<String> untouched;
        private final List<Check.Call> gathered = new ArrayList<>();

        Calls(Check.Made made, int callsToMake) {
            this.made = made;
            this.atOnce = 512 - Check.DEAREST_PART - callsToMake;
            this.untouched = Check.states(made);
        }

        void due(String call, Class<?> want, Check.Call asked) {
            if (want == null) {
                CHECK.due(call + " throws nothing", Check.outcome(made.clock(), asked).endsWith("Exception") ? 1 : 0, 0);
                return;
            }
            CHECK.fails(call, want, made.clock(), asked);
            gathered.add(asked);
            if (gathered.size() == atOnce) {
                endOf(call);
            }
        }

        void endOf(String call) {
            CHECK.same("after calls that throw, up to " + call, () -> {
                Craterclock clock = made.clock();
                for (Check.Call asked : gathered) {
                    Check.outcome(clock, asked);
                }
                return clock;
            }, untouched);
            gathered.clear();
        }
    }

    /** How many there are of each thing in the object that is asked, as the methods' ranges and limits go by it. */
    private static final class Kind {
        final String name;
        final Calls calls;
        final int craters, lessenings, eyes, anchors;
        final long lastYears, lastDensity;

        Kind(String name, Calls calls, int craters, int lessenings, int eyes, int anchors, long[] last) {
            this.name = name;
            this.calls = calls;
            this.craters = craters;
            this.lessenings = lessenings;
            this.eyes = eyes;
            this.anchors = anchors;
            this.lastYears = last[0];
            this.lastDensity = last[1];
        }
    }

    private static Craterclock inUse() {
        Craterclock c = new Craterclock();
        c.ground(3, 3, 1);
        c.ground(8, 8, 2);
        c.stone(3, 3, 4);
        c.stone(8, 8, 5);
        c.stone(15, 0, 2);
        c.draw(4711);
        c.rain(9);
        c.flood(0, 0, 15, 9, 2);
        c.soften(3);
        c.ground(8, 8, 0);
        c.eye(9);
        c.eye(4);
        c.anchor(1000, 900);
        c.anchor(4000000000L, 60000000L);
        return c;
    }

    /** 200 craters, 100 floods and softenings, 6 eyes, 8 anchors. */
    private static Craterclock full() {
        Craterclock c = new Craterclock();
        for (int i = 0; i < 16; i++) {
            c.ground(i, i, 1 + i % 2);
        }
        c.rain(30);
        for (int i = 0; i < 25; i++) {
            c.soften(1);
            c.flood(i % 16, 0, 15, 15, 1);
        }
        c.stone(8, 8, 6);
        c.rain(29);
        c.soften(2);
        for (int i = 0; i < 49; i++) {
            c.flood(0, 0, i % 16, 3, 1 + i % 2);
        }
        for (int i = 0; i < 4; i++) {
            c.rain(30);
        }
        c.rain(20);
        for (int i = 0; i < 6; i++) {
            c.eye(9 - i);
        }
        for (int i = 1; i <= 8; i++) {
            c.anchor(500000000L * i, 12000000L * i);
        }
        return c;
    }

    private static boolean in(long number, long from, long to) {
        return from <= number && number <= to;
    }

    private static boolean cell(int x, int y) {
        return in(x, 0, 15) && in(y, 0, 15);
    }

    private static Class<?> first(boolean index, boolean argument, boolean state) {
        return index ? Check.INDEX : argument ? Check.ARGUMENT : state ? Check.STATE : null;
    }

    private static void cells(Kind of) {
        for (int x : CELL) {
            for (int y : CELL) {
                String told = of.name + "(" + x + ", " + y;
                boolean none = !cell(x, y);
                of.calls.due(told + ") top", first(none, false, false), c -> c.top(x, y));
                of.calls.due(told + ") topAnew", first(none, false, false), c -> c.topAnew(x, y));
                for (int ground : new int[] {-1, 0, 2, 3}) {
                    of.calls.due(told + ", " + ground + ") ground", first(none, !in(ground, 0, 2), false),
                            c -> c.ground(x, y, ground));
                }
                for (int size : new int[] {0, 1, 6, 7}) {
                    of.calls.due(told + ", " + size + ") stone", first(none, !in(size, 1, 6), of.craters == 200),
                            c -> c.stone(x, y, size));
                }
            }
        }
        of.calls.endOf("cells");
    }

    private static void plainNumbers(Kind of) {
        for (int x : new int[] {-1, 0, 1, 65536, 65537}) {
            of.calls.due("draw " + x, first(false, !in(x, 1, 65536), false), c -> c.draw(x));
        }
        for (int many : new int[] {-1, 0, 1, 30, 31}) {
            of.calls.due("rain " + many, first(false, !in(many, 1, 30), of.craters + many > 200), c -> c.rain(many));
        }
        for (int steps : new int[] {-1, 0, 1, 40, 41}) {
            of.calls.due("soften " + steps, first(false, !in(steps, 1, 40), of.lessenings == 100), c -> c.soften(steps));
        }
        for (int skill : new int[] {-1, 0, 1, 9, 10}) {
            of.calls.due("eye " + skill, first(false, !in(skill, 1, 9), of.eyes == 6), c -> c.eye(skill));
        }
        of.calls.endOf("numbers");
    }

    private static void craters(Kind of) {
        for (int crater : new int[] {-1, 0, of.craters - 1, of.craters, 200}) {
            boolean none = !in(crater, 0, of.craters - 1);
            of.calls.due("depthAnew " + crater, first(none, false, false), c -> c.depthAnew(crater));
            for (int what : new int[] {-1, 0, 3, 4}) {
                of.calls.due("about " + crater + ", " + what, first(none, !in(what, 0, 3), false),
                        c -> c.about(crater, what));
            }
        }
        of.calls.endOf("craters");
    }

    private static void anchors(Kind of) {
        long[] years = {0, 1, of.lastYears - 1, of.lastYears, of.lastYears + 1, 5000000000L, 5000000001L};
        long[] densities = {0, 1, of.lastDensity - 1, of.lastDensity, of.lastDensity + 1, 100000000L, 100000001L};
        for (long year : years) {
            for (long density : densities) {
                boolean wrong = !in(year, 1, 5000000000L) || !in(density, 1, 100000000L);
                boolean notMore = of.anchors > 0 && (year <= of.lastYears || density <= of.lastDensity);
                of.calls.due(of.name + " anchor " + year + ", " + density, first(false, wrong, of.anchors == 8 || notMore),
                        c -> c.anchor(year, density));
            }
        }
        of.calls.endOf("anchors");
    }

    private static void fields(Kind of) {
        for (int x : CELL) {
            for (int y : CELL) {
                for (int toX : CELL) {
                    for (int toY : CELL) {
                        floods(of, x, y, toX, toY);
                        seen(of, x, y, toX, toY);
                    }
                }
            }
        }
        of.calls.endOf("fields");
    }

    private static void floods(Kind of, int x, int y, int toX, int toY) {
        boolean none = !cell(x, y) || !cell(toX, toY);
        boolean back = toX < x || toY < y;
        for (int thick : new int[] {0, 1, 40, 41}) {
            of.calls.due(of.name + " flood " + x + ", " + y + ", " + toX + ", " + toY + ", " + thick,
                    first(none, back || !in(thick, 1, 40), of.lessenings == 100), c -> c.flood(x, y, toX, toY, thick));
        }
    }

    private static void seen(Kind of, int x, int y, int toX, int toY) {
        boolean back = toX < x || toY < y;
        for (int eye : new int[] {-1, 0, of.eyes - 1, of.eyes}) {
            boolean none = !in(eye, 0, of.eyes - 1) || !cell(x, y) || !cell(toX, toY);
            String told = of.name + " of " + eye + ", " + x + ", " + y + ", " + toX + ", " + toY;
            of.calls.due("whyNot " + told, first(none, back, false), c -> c.whyNot(eye, x, y, toX, toY));
            of.calls.due("age " + told, first(none, back, of.anchors < 2), c -> c.age(eye, x, y, toX, toY));
            for (int least : new int[] {0, 1, 7, 8}) {
                of.calls.due("count " + told + ", " + least, first(none, back || !in(least, 1, 7), false),
                        c -> c.count(eye, x, y, toX, toY, least));
            }
        }
    }

    /** The least and the greatest numbers of all, where sums and products would wrap round. */
    private static void farOff(Kind of) {
        for (int far : new int[] {Integer.MIN_VALUE, Integer.MIN_VALUE + 1, Integer.MAX_VALUE - 1, Integer.MAX_VALUE}) {
            of.calls.due("draw", Check.ARGUMENT, c -> c.draw(far));
            of.calls.due("rain", Check.ARGUMENT, c -> c.rain(far));
            of.calls.due("soften", Check.ARGUMENT, c -> c.soften(far));
            of.calls.due("eye", Check.ARGUMENT, c -> c.eye(far));
            of.calls.due("ground x", Check.INDEX, c -> c.ground(far, 0, 0));
            of.calls.due("ground y", Check.INDEX, c -> c.ground(0, far, 0));
            of.calls.due("ground", Check.ARGUMENT, c -> c.ground(0, 0, far));
            of.calls.due("stone x", Check.INDEX, c -> c.stone(far, 0, 1));
            of.calls.due("stone y", Check.INDEX, c -> c.stone(0, far, 1));
            of.calls.due("stone", Check.ARGUMENT, c -> c.stone(0, 0, far));
            of.calls.due("flood x", Check.INDEX, c -> c.flood(far, 0, 15, 15, 1));
            of.calls.due("flood y", Check.INDEX, c -> c.flood(0, far, 15, 15, 1));
            of.calls.due("flood toX", Check.INDEX, c -> c.flood(0, 0, far, 15, 1));
            of.calls.due("flood toY", Check.INDEX, c -> c.flood(0, 0, 15, far, 1));
            of.calls.due("flood", Check.ARGUMENT, c -> c.flood(0, 0, 15, 15, far));
            of.calls.due("count eye", Check.INDEX, c -> c.count(far, 0, 0, 15, 15, 1));
            of.calls.due("age eye", Check.INDEX, c -> c.age(far, 0, 0, 15, 15));
            of.calls.due("whyNot eye", Check.INDEX, c -> c.whyNot(far, 0, 0, 15, 15));
            of.calls.due("about", Check.INDEX, c -> c.about(far, 0));
            of.calls.due("depthAnew", Check.INDEX, c -> c.depthAnew(far));
            of.calls.due("top x", Check.INDEX, c -> c.top(far, 0));
            of.calls.due("top y", Check.INDEX, c -> c.top(0, far));
            of.calls.due("topAnew x", Check.INDEX, c -> c.topAnew(far, 0));
            of.calls.due("topAnew y", Check.INDEX, c -> c.topAnew(0, far));
            farOffSeen(of, far);
        }
        for (long far : new long[] {Long.MIN_VALUE, -1, (1L << 32) * 2 + 1, Long.MAX_VALUE}) {
            of.calls.due("anchor years", Check.ARGUMENT, c -> c.anchor(far, 100000000L));
            of.calls.due("anchor density", Check.ARGUMENT, c -> c.anchor(5000000000L, far));
        }
        of.calls.endOf("far off");
    }

    private static void farOffSeen(Kind of, int far) {
        if (of.eyes == 0) {
            return;
        }
        of.calls.due("about what", Check.ARGUMENT, c -> c.about(0, far));
        of.calls.due("count least", Check.ARGUMENT, c -> c.count(0, 0, 0, 15, 15, far));
        of.calls.due("count x", Check.INDEX, c -> c.count(0, far, 0, 15, 15, 1));
        of.calls.due("count y", Check.INDEX, c -> c.count(0, 0, far, 15, 15, 1));
        of.calls.due("count toX", Check.INDEX, c -> c.count(0, 0, 0, far, 15, 1));
        of.calls.due("count toY", Check.INDEX, c -> c.count(0, 0, 0, 15, far, 1));
        of.calls.due("age x", Check.INDEX, c -> c.age(0, far, 0, 15, 15));
        of.calls.due("age toY", Check.INDEX, c -> c.age(0, 0, 0, 15, far));
        of.calls.due("whyNot y", Check.INDEX, c -> c.whyNot(0, 0, far, 15, 15));
        of.calls.due("whyNot toX", Check.INDEX, c -> c.whyNot(0, 0, 0, far, 15));
    }

    /** "A field goes to less than where it begins", by one, in the middle of the plain, by one of both or by both. */
    private static void fieldsBackByOne(Kind of) {
        int[][] ends = {{6, 15}, {15, 6}, {6, 6}, {7, 6}, {6, 7}, {7, 7}, {7, 15}, {15, 7}};
        for (int[] end : ends) {
            boolean back = end[0] < 7 || end[1] < 7;
            String told = " to " + end[0] + ", " + end[1];
            of.calls.due("flood" + told, first(false, back, of.lessenings == 100), c -> c.flood(7, 7, end[0], end[1], 1));
            boolean none = of.eyes == 0;
            of.calls.due("count" + told, first(none, back, false), c -> c.count(0, 7, 7, end[0], end[1], 1));
            of.calls.due("whyNot" + told, first(none, back, false), c -> c.whyNot(0, 7, 7, end[0], end[1]));
            of.calls.due("age" + told, first(none, back, of.anchors < 2), c -> c.age(0, 7, 7, end[0], end[1]));
        }
        of.calls.endOf("fields back by one");
    }

    private static void all(Kind of) {
        CHECK.sentence("exceptions, " + of.name);
        cells(of);
        plainNumbers(of);
        craters(of);
        anchors(of);
        fields(of);
        fieldsBackByOne(of);
        farOff(of);
    }

    public static void main(String[] args) {
        all(new Kind("a new object", new Calls(Craterclock::new, 0), 0, 0, 0, 0, new long[] {1, 1}));
        all(new Kind("one in use", new Calls(RefusalTests::inUse, 20), 12, 2, 2, 2, new long[] {4000000000L, 60000000L}));
        all(new Kind("a full one", new Calls(RefusalTests::full, 150), 200, 100, 6, 8, new long[] {4000000000L, 96000000L}));
        CHECK.end();
    }
}
