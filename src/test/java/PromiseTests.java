/** For each promise of the document: ordinary inputs, the edges that it names, and wrong inputs, after which nothing has changed. */
public final class PromiseTests {
    private static final Class<?> INDEX = IndexOutOfBoundsException.class;
    private static final Class<?> ARGUMENT = IllegalArgumentException.class;
    private static final Class<?> STATE = IllegalStateException.class;
    private static final int ROCK = 0, SAND = 1, ICE = 2, NONE = -1;

    private static int wrong = 0;
    private static int asked = 0;
    private static String promise = "";

    private interface Call {
        long answer();
    }

    private static void due(String call, long got, long want) {
        asked++;
        if (got != want) {
            wrong++;
            System.out.println(promise + ": " + call + " answered " + got + ", due is " + want);
        }
    }

    private static void fails(String call, Class<?> want, Call made) {
        asked++;
        String got;
        try {
            got = "answered " + made.answer();
        } catch (RuntimeException e) {
            if (e.getClass() == want) {
                return;
            }
            got = "threw " + e.getClass().getName();
        }
        wrong++;
        System.out.println(promise + ": " + call + " " + got + ", due is " + want.getName());
    }

    private static int depth(Craterclock c, int crater) {
        return c.about(crater, 3);
    }

    /** Drops n small stones far from the corner (0, 0), each of which wipes out the one before. */
    private static void dropFar(Craterclock c, int many) {
        for (int i = 0; i < many; i++) {
            c.stone(15, 15, 1);
        }
    }

    private static void newObject() {
        promise = "promise 1";
        Craterclock c = new Craterclock();
        due("craters", c.craters(), 0);
        for (int y = 0; y < 16; y++) {
            for (int x = 0; x < 16; x++) {
                due("ground", c.ground(x, y, ROCK), ROCK);
            }
        }
        due("top", c.top(8, 8), NONE);
        due("topAnew", c.topAnew(8, 8), NONE);
        fails("about", INDEX, () -> c.about(0, 3));
        fails("whyNot without an eye", INDEX, () -> c.whyNot(0, 0, 0, 15, 15));
        due("the first eye", c.eye(5), 0);
        due("count", c.count(0, 0, 0, 15, 15, 1), 0);
        due("whyNot without anchors", c.whyNot(0, 0, 0, 15, 15), 1);
        due("the first anchor", c.anchor(1, 1), 1);
        due("the first draw", c.draw(7), 1);
        Craterclock other = new Craterclock();
        c.stone(0, 0, 1);
        c.ground(3, 3, ICE);
        due("another object's craters", other.craters(), 0);
        due("another object's ground", other.ground(3, 3, ROCK), ROCK);
        due("NONE", Craterclock.NONE, NONE);
        due("ROCK", Craterclock.ROCK, ROCK);
        due("SAND", Craterclock.SAND, SAND);
        due("ICE", Craterclock.ICE, ICE);
    }

    private static void ground() {
        promise = "promise 2";
        Craterclock c = new Craterclock();
        int[][] cells = {{0, 0}, {15, 0}, {0, 15}, {15, 15}, {7, 8}, {8, 8}, {7, 9}};
        for (int[] cell : cells) {
            due("first", c.ground(cell[0], cell[1], SAND), ROCK);
            due("second", c.ground(cell[0], cell[1], ICE), SAND);
            due("third", c.ground(cell[0], cell[1], ROCK), ICE);
            due("fourth", c.ground(cell[0], cell[1], ICE), ROCK);
        }
        due("a neighbour", c.ground(6, 8, ROCK), ROCK);
        due("a neighbour", c.ground(9, 8, ROCK), ROCK);
        fails("x -1", INDEX, () -> c.ground(-1, 0, 0));
        fails("x 16", INDEX, () -> c.ground(16, 0, 0));
        fails("y -1", INDEX, () -> c.ground(0, -1, 0));
        fails("y 16", INDEX, () -> c.ground(0, 16, 0));
        fails("greatest x", INDEX, () -> c.ground(Integer.MAX_VALUE, 0, 0));
        fails("least y", INDEX, () -> c.ground(0, Integer.MIN_VALUE, 0));
        fails("both wrong", INDEX, () -> c.ground(16, 0, 3));
        fails("ground 3", ARGUMENT, () -> c.ground(7, 8, 3));
        fails("ground -1", ARGUMENT, () -> c.ground(7, 8, -1));
        due("after wrong calls", c.ground(7, 8, ICE), ICE);
        c.stone(0, 0, 2);
        c.ground(0, 0, ROCK);
        due("a crater's radius stays", c.about(0, 2), 3);
        due("a crater's depth stays", depth(c, 0), 10);
        due("a crater's depth anew stays", c.depthAnew(0), 10);
    }

    private static void stoneSizes() {
        promise = "promise 3";
        int[][] radii = {{1, 2, 3, 4, 5, 6}, {1, 1, 2, 3, 4, 5}, {2, 3, 4, 5, 6, 7}};
        int[] deep = {4, 3, 5};
        for (int ground = ROCK; ground <= ICE; ground++) {
            for (int size = 1; size <= 6; size++) {
                Craterclock c = new Craterclock();
                c.ground(4, 11, ground);
                due("stone", c.stone(4, 11, size), 0);
                due("radius of size " + size + " on " + ground, c.about(0, 2), radii[ground][size - 1]);
                due("depth of size " + size + " on " + ground, depth(c, 0), deep[ground] * size);
            }
        }
    }

    private static void stoneOnOlder() {
        promise = "promise 3";
        Craterclock c = new Craterclock();
        c.stone(0, 0, 2);
        due("as great, at its radius", c.stone(2, 0, 2), 1);
        due("gone", depth(c, 0), 0);
        due("not gone", depth(c, 1), 8);

        Craterclock far = new Craterclock();
        far.stone(0, 0, 2);
        due("just beyond its radius", far.stone(2, 1, 2), 0);
        due("blanketed", depth(far, 0), 6);
        due("at both radii", far.stone(2, 3, 1), 0);
        due("blanketed at distance 2 of 3", depth(far, 1), 7);
        due("not blanketed at a square of 13 of 9", depth(far, 0), 6);

        Craterclock edge = new Craterclock();
        edge.stone(0, 0, 3);
        edge.stone(4, 3, 2);
        due("at both radii, 5", depth(edge, 0), 10);
        edge.stone(5, 1, 2);
        due("at a square of 26 of 25", depth(edge, 0), 10);
        due("smaller ones next to it", depth(edge, 1), 6);

        Craterclock lesser = new Craterclock();
        lesser.stone(8, 8, 5);
        due("a lesser one on a greater", lesser.stone(8, 8, 4), 0);
        due("blanketed by the size", depth(lesser, 0), 16);
        due("again", lesser.stone(8, 8, 4), 1);
        due("again", depth(lesser, 0), 12);
        due("the other way", lesser.stone(8, 8, 6), 2);
        due("none left", depth(lesser, 0) + depth(lesser, 1) + depth(lesser, 2), 0);
        due("those that are gone stay so", lesser.stone(8, 8, 6), 1);
    }

    private static void stoneByBlanket() {
        promise = "promise 3";
        Craterclock c = new Craterclock();
        c.ground(8, 8, ICE);
        c.stone(8, 8, 1);
        due("radius", c.about(0, 2), 2);
        due("blanket", c.stone(11, 8, 1), 0);
        due("blanket", c.stone(5, 8, 1), 0);
        due("blanket", c.stone(8, 11, 1), 0);
        due("blanket", c.stone(8, 5, 1), 0);
        due("one left", depth(c, 0), 1);
        due("on top as it is not gone", c.top(8, 8), 0);
        due("gone by a blanket", c.stone(10, 10, 1), 1);
        due("gone", depth(c, 0), 0);
        due("gone anew", c.depthAnew(0), 0);

        Craterclock ground = new Craterclock();
        ground.ground(3, 3, SAND);
        ground.stone(3, 3, 3);
        due("radii go by the ground", ground.about(0, 2), 2);
        ground.ground(3, 3, ROCK);
        due("wiped out by a stone of 2", ground.stone(3, 3, 2), 1);
    }

    private static void stoneWrong() {
        promise = "promise 3";
        Craterclock c = new Craterclock();
        c.stone(3, 3, 2);
        fails("x", INDEX, () -> c.stone(16, 3, 1));
        fails("x", INDEX, () -> c.stone(-1, 3, 1));
        fails("y", INDEX, () -> c.stone(3, 16, 1));
        fails("y", INDEX, () -> c.stone(3, -1, 1));
        fails("cell and size", INDEX, () -> c.stone(3, -1, 0));
        fails("size 0", ARGUMENT, () -> c.stone(3, 3, 0));
        fails("size 7", ARGUMENT, () -> c.stone(3, 3, 7));
        due("no crater came", c.craters(), 1);
        due("none is less", depth(c, 0), 8);
        dropFar(c, 198);
        due("the last stone", c.stone(0, 0, 1), 0);
        due("full", c.craters(), 200);
        fails("one more", STATE, () -> c.stone(3, 3, 6));
        fails("one more, of a wrong size", ARGUMENT, () -> c.stone(3, 3, 7));
        fails("one more, of a wrong cell", INDEX, () -> c.stone(16, 3, 7));
        due("still full", c.craters(), 200);
        due("none is less", depth(c, 0), 8);
    }

    private static void draw() {
        promise = "promise 4";
        Craterclock c = new Craterclock();
        due("first", c.draw(65536), 1);
        due("second", c.draw(1), 65536);
        fails("0", ARGUMENT, () -> c.draw(0));
        fails("65537", ARGUMENT, () -> c.draw(65537));
        fails("-1", ARGUMENT, () -> c.draw(-1));
        due("after wrong calls", c.draw(1), 1);
        c.rain(1);
        due("three were drawn", c.draw(2), 57305);
        c.rain(1);
        due("three more were drawn", c.draw(1), drawn(drawn(drawn(2))));
        int ahead = 0;
        for (int x = 1; x <= 65536 && ahead == 0; x++) {
            ahead = drawn(drawn(drawn(x))) == 0 ? x : 0;
        }
        c.draw(ahead);
        c.rain(1);
        due("0 can be drawn", c.draw(5), 0);
    }

    private static int drawn(int x) {
        return (75 * x + 74) % 65537;
    }

    private static int sizeOf(int lot) {
        return lot < 40 ? 1 : lot < 52 ? 2 : lot < 58 ? 3 : lot < 61 ? 4 : lot < 63 ? 5 : 6;
    }

    private static void rain() {
        promise = "promise 5";
        Craterclock c = new Craterclock();
        due("one stone", c.rain(1), 1);
        due("x", c.about(0, 0), 5);
        due("y", c.about(0, 1), 1);
        due("radius", c.about(0, 2), 1);
        due("depth", depth(c, 0), 4);
        for (int lot = 0; lot < 64; lot++) {
            int from = 1;
            while (drawn(drawn(drawn(from))) % 64 != lot) {
                from++;
            }
            Craterclock one = new Craterclock();
            one.draw(from);
            one.rain(1);
            due("size of " + lot, one.about(0, 2), sizeOf(lot));
            due("x of " + from, one.about(0, 0), drawn(from) % 16);
            due("y of " + from, one.about(0, 1), drawn(drawn(from)) % 16);
        }
    }

    private static void rainAsStones() {
        promise = "promise 5";
        Craterclock rained = new Craterclock();
        Craterclock stoned = new Craterclock();
        for (int i = 0; i < 16; i++) {
            rained.ground(i, i, ICE);
            stoned.ground(i, i, ICE);
            rained.ground(i, 15 - i, SAND);
            stoned.ground(i, 15 - i, SAND);
        }
        int seed = 4711;
        rained.draw(seed);
        int left = rained.rain(30);
        for (int i = 0; i < 30; i++) {
            int x = drawn(seed);
            int y = drawn(x);
            seed = drawn(y);
            stoned.stone(x % 16, y % 16, sizeOf(seed % 64));
        }
        int standing = 0;
        for (int i = 0; i < 30; i++) {
            for (int what = 0; what < 4; what++) {
                due("about " + i + " " + what, rained.about(i, what), stoned.about(i, what));
            }
            standing += depth(rained, i) > 0 ? 1 : 0;
        }
        due("those not gone", left, standing);
        due("drawn", rained.draw(1), seed);

        Craterclock shallow = new Craterclock();
        shallow.stone(15, 15, 6);
        shallow.flood(15, 15, 15, 15, 23);
        due("one of depth 1 is not gone", shallow.rain(1), 2);
        shallow.flood(15, 15, 15, 15, 1);
        shallow.draw(1);
        due("one of depth 0 is, and one that it wipes out", shallow.rain(1), 1);
    }

    private static void rainWrong() {
        promise = "promise 5";
        Craterclock c = new Craterclock();
        fails("0", ARGUMENT, () -> c.rain(0));
        fails("-1", ARGUMENT, () -> c.rain(-1));
        fails("31", ARGUMENT, () -> c.rain(31));
        fails("the greatest", ARGUMENT, () -> c.rain(Integer.MAX_VALUE));
        due("none fell", c.craters(), 0);
        dropFar(c, 171);
        fails("201", STATE, () -> c.rain(30));
        fails("both", ARGUMENT, () -> c.rain(31));
        due("none fell", c.craters(), 171);
        due("none was drawn", c.draw(9), 1);
        c.rain(29);
        due("200 fell", c.craters(), 200);
        fails("201", STATE, () -> c.rain(1));
    }

    private static void flood() {
        promise = "promise 6";
        Craterclock c = new Craterclock();
        c.stone(2, 2, 1);
        c.stone(6, 2, 1);
        c.stone(2, 6, 1);
        c.stone(6, 6, 1);
        c.stone(15, 15, 6);
        due("depths", depth(c, 0) + depth(c, 1) + depth(c, 2) + depth(c, 3), 16);
        due("a field of one cell", c.flood(2, 2, 2, 2, 3), 0);
        due("one is less", depth(c, 0), 1);
        due("its neighbours are not", depth(c, 1) + depth(c, 2) + depth(c, 3), 12);
        due("within its radius is not on it", c.flood(11, 11, 14, 15, 40), 0);
        due("the same", depth(c, 4), 24);
        due("with all its edges", c.flood(2, 2, 6, 6, 1), 1);
        due("others are less", depth(c, 1) + depth(c, 2) + depth(c, 3), 9);
        due("beside x", c.flood(3, 0, 5, 15, 40), 0);
        due("beside y", c.flood(0, 3, 15, 5, 40), 0);
        due("the whole", c.flood(0, 0, 15, 15, 24), 4);
        due("none is left", c.flood(0, 0, 15, 15, 40), 0);
        due("0", depth(c, 4), 0);
        c.stone(10, 10, 2);
        due("a later one is not", depth(c, 5), 8);
        due("to exactly 0", c.flood(10, 10, 10, 10, 8), 1);
    }

    private static void floodWrong() {
        promise = "promise 6";
        Craterclock c = new Craterclock();
        c.stone(0, 0, 1);
        fails("x", INDEX, () -> c.flood(-1, 0, 0, 0, 1));
        fails("y", INDEX, () -> c.flood(0, -1, 0, 0, 1));
        fails("toX", INDEX, () -> c.flood(0, 0, 16, 0, 1));
        fails("toY", INDEX, () -> c.flood(0, 0, 0, 16, 1));
        fails("toX below 0", INDEX, () -> c.flood(0, 0, -1, 0, 1));
        fails("cell and thick", INDEX, () -> c.flood(0, 0, 0, 16, 0));
        fails("cell and order", INDEX, () -> c.flood(1, 0, 0, 16, 1));
        fails("toX less", ARGUMENT, () -> c.flood(1, 0, 0, 15, 1));
        fails("toY less", ARGUMENT, () -> c.flood(0, 1, 15, 0, 1));
        fails("thick 0", ARGUMENT, () -> c.flood(0, 0, 0, 0, 0));
        fails("thick 41", ARGUMENT, () -> c.flood(0, 0, 0, 0, 41));
        due("none is less", depth(c, 0), 4);
        for (int i = 0; i < 50; i++) {
            due("floods", c.flood(1, 1, 1, 1, 40), 0);
            due("softenings", c.soften(1), 0);
        }
        fails("101", STATE, () -> c.flood(0, 0, 0, 0, 1));
        fails("101 softenings", STATE, () -> c.soften(40));
        fails("101 and order", ARGUMENT, () -> c.flood(1, 0, 0, 0, 1));
        fails("101 and steps", ARGUMENT, () -> c.soften(0));
        fails("101 and cell", INDEX, () -> c.flood(16, 0, 0, 0, 1));
        due("none is less", depth(c, 0), 4);
        due("nor anew", c.depthAnew(0), 4);
    }

    private static void soften() {
        promise = "promise 7";
        Craterclock c = new Craterclock();
        c.ground(8, 2, SAND);
        c.ground(2, 13, ICE);
        c.stone(2, 2, 3);
        c.stone(8, 2, 3);
        c.stone(2, 13, 3);
        due("rock", depth(c, 0), 12);
        due("sand", depth(c, 1), 9);
        due("ice", depth(c, 2), 12 + 3);
        due("1", c.soften(1), 0);
        due("rock by half, down", depth(c, 0), 12);
        due("sand by one", depth(c, 1), 8);
        due("ice by twice", depth(c, 2), 13);
        due("3", c.soften(3), 0);
        due("rock by half, down", depth(c, 0), 11);
        due("sand by three", depth(c, 1), 5);
        due("ice by twice", depth(c, 2), 7);
        c.ground(2, 2, ICE);
        c.ground(2, 13, ROCK);
        due("as the cell is now", c.soften(4), 0);
        due("ice now", depth(c, 0), 3);
        due("rock now", depth(c, 2), 5);
        due("to exactly 0", c.soften(1), 1);
        due("sand", depth(c, 1), 0);
        due("below 0", c.soften(2), 1);
        due("ice", depth(c, 0), 0);
        due("rock", depth(c, 2), 4);
        due("rock by 20", c.soften(40), 1);
        due("none left", c.soften(40), 0);
        fails("0", ARGUMENT, () -> c.soften(0));
        fails("41", ARGUMENT, () -> c.soften(41));
        fails("-1", ARGUMENT, () -> c.soften(-1));
    }

    private static void softenWrong() {
        promise = "promise 7";
        Craterclock c = new Craterclock();
        c.stone(0, 0, 6);
        fails("0", ARGUMENT, () -> c.soften(0));
        fails("41", ARGUMENT, () -> c.soften(41));
        for (int i = 0; i < 100; i++) {
            c.soften(1);
        }
        fails("101", STATE, () -> c.soften(40));
        fails("101 and wrong", ARGUMENT, () -> c.soften(41));
        fails("101 with a flood", STATE, () -> c.flood(0, 0, 0, 0, 40));
        due("none is less", depth(c, 0), 24);
        due("stones fall on", c.stone(0, 0, 6), 1);
    }

    private static void eye() {
        promise = "promise 8";
        Craterclock c = new Craterclock();
        fails("0", ARGUMENT, () -> c.eye(0));
        fails("10", ARGUMENT, () -> c.eye(10));
        due("first", c.eye(9), 0);
        due("second", c.eye(1), 1);
        due("third", c.eye(5), 2);
        due("fourth", c.eye(5), 3);
        due("fifth", c.eye(2), 4);
        fails("no sixth yet", INDEX, () -> c.count(5, 0, 0, 15, 15, 1));
        due("sixth", c.eye(3), 5);
        fails("seventh", STATE, () -> c.eye(5));
        fails("seventh and wrong", ARGUMENT, () -> c.eye(10));
        fails("no seventh", INDEX, () -> c.count(6, 0, 0, 15, 15, 1));
        due("the sixth is there", c.count(5, 0, 0, 15, 15, 1), 0);
        c.ground(0, 0, SAND);
        c.stone(0, 0, 6);
        int[] skills = {9, 1, 5, 5, 2, 3};
        for (int deep = 18; deep >= 1; deep--) {
            for (int i = 0; i < 6; i++) {
                due("skill " + skills[i] + " at " + deep, c.count(i, 0, 0, 0, 0, 1), deep >= 10 - skills[i] ? 1 : 0);
            }
            c.flood(0, 0, 0, 0, 1);
        }
        due("gone, skill 9", c.count(0, 0, 0, 0, 0, 1), 0);
    }

    private static void anchor() {
        promise = "promise 9";
        Craterclock c = new Craterclock();
        fails("years 0", ARGUMENT, () -> c.anchor(0, 1));
        fails("years 5000000001", ARGUMENT, () -> c.anchor(5000000001L, 1));
        fails("density 0", ARGUMENT, () -> c.anchor(1, 0));
        fails("density 100000001", ARGUMENT, () -> c.anchor(1, 100000001L));
        fails("the least", ARGUMENT, () -> c.anchor(Long.MIN_VALUE, 1));
        fails("wide", ARGUMENT, () -> c.anchor(1, (1L << 32) + 1));
        due("first", c.anchor(10, 10), 1);
        fails("the same", STATE, () -> c.anchor(10, 10));
        fails("no more years", STATE, () -> c.anchor(10, 11));
        fails("no more density", STATE, () -> c.anchor(11, 10));
        fails("less years", STATE, () -> c.anchor(9, 11));
        fails("less density", STATE, () -> c.anchor(11, 9));
        fails("less years, out of range", ARGUMENT, () -> c.anchor(0, 11));
        for (int i = 2; i <= 7; i++) {
            due("more of both", c.anchor(9 + i, 9 + i), i);
        }
        due("the greatest", c.anchor(5000000000L, 100000000L), 8);
        fails("one more", STATE, () -> c.anchor(5000000000L, 100000000L));
        fails("one more, out of range", ARGUMENT, () -> c.anchor(5000000001L, 100000000L));

        Craterclock full = new Craterclock();
        for (int i = 1; i <= 8; i++) {
            due("eight", full.anchor(i, i), i);
        }
        fails("a ninth with more of both", STATE, () -> full.anchor(9, 9));
        full.eye(9);
        full.stone(0, 0, 1);
        due("the eighth is the last", full.whyNot(0, 0, 0, 15, 15), 2);
    }

    private static void count() {
        promise = "promise 10";
        Craterclock c = new Craterclock();
        c.eye(9);
        c.eye(4);
        c.ground(8, 8, ICE);
        c.stone(0, 0, 1);
        c.stone(15, 0, 2);
        c.stone(0, 15, 3);
        c.stone(15, 15, 4);
        c.stone(8, 8, 6);
        int[] greater = {5, 4, 3, 2, 1, 1, 1};
        for (int least = 1; least <= 7; least++) {
            due("least " + least, c.count(0, 0, 0, 15, 15, least), greater[least - 1]);
        }
        due("the lesser eye", c.count(1, 0, 0, 15, 15, 1), 4);
        due("one cell", c.count(0, 15, 15, 15, 15, 1), 1);
        due("one cell", c.count(0, 14, 15, 14, 15, 1), 0);
        due("within a radius is not on a cell", c.count(0, 9, 9, 14, 14, 1), 0);
        due("a row", c.count(0, 0, 0, 15, 0, 1), 2);
        due("a column", c.count(0, 0, 0, 0, 15, 1), 2);
        due("without the column", c.count(0, 1, 0, 15, 15, 1), 3);
        due("without the row", c.count(0, 0, 0, 15, 14, 1), 3);
        fails("eye -1", INDEX, () -> c.count(-1, 0, 0, 0, 0, 1));
        fails("eye 2", INDEX, () -> c.count(2, 0, 0, 0, 0, 1));
        fails("eye and least", INDEX, () -> c.count(2, 0, 0, 0, 0, 0));
        fails("x", INDEX, () -> c.count(0, -1, 0, 0, 0, 1));
        fails("y", INDEX, () -> c.count(0, 0, 16, 0, 0, 1));
        fails("toX", INDEX, () -> c.count(0, 0, 0, 16, 0, 1));
        fails("toY", INDEX, () -> c.count(0, 0, 0, 0, -1, 1));
        fails("cell and least", INDEX, () -> c.count(0, 0, 0, 0, -1, 8));
        fails("least 0", ARGUMENT, () -> c.count(0, 0, 0, 0, 0, 0));
        fails("least 8", ARGUMENT, () -> c.count(0, 0, 0, 0, 0, 8));
        fails("toX less", ARGUMENT, () -> c.count(0, 5, 0, 4, 15, 1));
        fails("toY less", ARGUMENT, () -> c.count(0, 0, 5, 15, 4, 1));
        due("after wrong calls", c.count(0, 0, 0, 15, 15, 1), 5);
    }

    private static void age() {
        promise = "promise 11";
        Craterclock c = new Craterclock();
        c.eye(9);
        c.eye(1);
        fails("without anchors, of density 0", STATE, () -> c.age(0, 0, 0, 15, 15));
        c.anchor(1001, 1999);
        fails("with one anchor", STATE, () -> c.age(0, 0, 0, 15, 15));
        c.anchor(5000000, 3000);
        due("with two, density 0", c.age(0, 0, 0, 15, 15), 0);
        c.stone(0, 0, 1);
        due("density 1000: 1001000 / 1999", c.age(0, 0, 0, 15, 15), 500);
        due("density 1066 by 240 cells: 1067066 / 1999", c.age(0, 0, 0, 15, 14), 533);
        due("the other eye", c.age(1, 0, 0, 15, 15), 0);
        c.stone(15, 0, 1);
        due("density 2000: 1001 and 4998999 / 1001", c.age(0, 0, 0, 15, 15), 1001 + 4994);
        c.stone(0, 15, 1);
        due("density 3000", c.age(0, 0, 0, 15, 15), 5000000);
        c.anchor(5000001, 4001);
        c.stone(15, 15, 1);
        due("density 4000: 5000000 and 1000 / 1001", c.age(0, 0, 0, 15, 15), 5000000);
        c.stone(8, 8, 1);
        fails("density 5000", STATE, () -> c.age(0, 0, 0, 15, 15));
        c.anchor(5000000000L, 100000000L);
        due("density 5000", c.age(0, 0, 0, 15, 15), 5000001L + 4994999999L * 999 / 99995999L);
        due("density 256000", c.age(0, 0, 0, 0, 0), 5000001L + 4994999999L * 251999 / 99995999L);
    }

    private static void ageAtAnchors() {
        promise = "promise 11";
        Craterclock c = new Craterclock();
        c.eye(9);
        c.anchor(4999999999L, 999);
        c.anchor(5000000000L, 100000000L);
        c.stone(0, 0, 1);
        due("just above the first", c.age(0, 0, 0, 15, 15), 4999999999L);
        due("without numbers that wrap round", c.age(0, 0, 0, 0, 0), 4999999999L);

        Craterclock wide = new Craterclock();
        wide.eye(9);
        wide.anchor(1, 1);
        wide.anchor(5000000000L, 100000000L);
        wide.stone(0, 0, 1);
        due("wide", wide.age(0, 0, 0, 0, 0), 1 + 4999999999L * 255999 / 99999999L);

        Craterclock first = new Craterclock();
        first.eye(9);
        first.anchor(4999999999L, 99999999L);
        first.anchor(5000000000L, 100000000L);
        first.stone(0, 0, 1);
        first.stone(14, 15, 1);
        due("a field of 4 by 3 cells, of density 21333", first.age(0, 12, 13, 15, 15), 4999999999L * 21333 / 99999999L);
        due("below a far first", first.age(0, 0, 0, 0, 0), 4999999999L * 256000 / 99999999L);
    }

    private static void ageWrong() {
        promise = "promise 11";
        Craterclock c = new Craterclock();
        fails("no eye", INDEX, () -> c.age(0, 0, 0, 0, 0));
        c.eye(9);
        fails("eye 1", INDEX, () -> c.age(1, 0, 0, 0, 0));
        fails("eye -1", INDEX, () -> c.age(-1, 0, 0, 0, 0));
        fails("x", INDEX, () -> c.age(0, 16, 0, 0, 0));
        fails("y", INDEX, () -> c.age(0, 0, 16, 0, 0));
        fails("toX", INDEX, () -> c.age(0, 0, 0, 16, 0));
        fails("toY", INDEX, () -> c.age(0, 0, 0, 0, 16));
        fails("cell and order", INDEX, () -> c.age(0, 1, 0, 0, 16));
        fails("toX less, without anchors", ARGUMENT, () -> c.age(0, 1, 0, 0, 0));
        fails("toY less, without anchors", ARGUMENT, () -> c.age(0, 0, 1, 0, 0));
        fails("without anchors", STATE, () -> c.age(0, 0, 0, 0, 0));
    }

    private static void whyNot() {
        promise = "promise 12";
        Craterclock c = new Craterclock();
        fails("no eye", INDEX, () -> c.whyNot(0, 0, 0, 0, 0));
        c.eye(9);
        due("without anchors", c.whyNot(0, 0, 0, 15, 15), 1);
        c.anchor(5, 999);
        due("with one", c.whyNot(0, 0, 0, 15, 15), 1);
        c.stone(0, 0, 1);
        due("with one, whatever the density", c.whyNot(0, 0, 0, 15, 15), 1);
        c.anchor(6, 1000);
        due("with two, at the last", c.whyNot(0, 0, 0, 15, 15), 0);
        due("with two, above the last", c.whyNot(0, 0, 0, 14, 15), 2);
        due("with two, density 0", c.whyNot(0, 1, 0, 15, 15), 0);
        c.anchor(7, 1066);
        due("with three, at the last", c.whyNot(0, 0, 0, 14, 15), 0);
        fails("eye 1", INDEX, () -> c.whyNot(1, 0, 0, 0, 0));
        fails("eye -1", INDEX, () -> c.whyNot(-1, 0, 0, 0, 0));
        fails("x", INDEX, () -> c.whyNot(0, -1, 0, 0, 0));
        fails("y", INDEX, () -> c.whyNot(0, 0, -1, 0, 0));
        fails("toX", INDEX, () -> c.whyNot(0, 0, 0, 16, 0));
        fails("toY", INDEX, () -> c.whyNot(0, 0, 0, 0, 16));
        fails("cell and order", INDEX, () -> c.whyNot(0, 0, 1, 16, 0));
        fails("toX less", ARGUMENT, () -> c.whyNot(0, 1, 0, 0, 0));
        fails("toY less", ARGUMENT, () -> c.whyNot(0, 0, 1, 0, 0));
    }

    private static void craters() {
        promise = "promise 13";
        Craterclock c = new Craterclock();
        due("none", c.craters(), 0);
        c.stone(0, 0, 1);
        due("one", c.craters(), 1);
        c.stone(0, 0, 1);
        due("one of two is gone", c.craters(), 2);
        c.flood(0, 0, 15, 15, 40);
        due("both are gone", c.craters(), 2);
        c.rain(30);
        due("30 more", c.craters(), 32);
    }

    private static void about() {
        promise = "promise 14";
        Craterclock c = new Craterclock();
        fails("no crater", INDEX, () -> c.about(0, 0));
        fails("no crater, wrong what", INDEX, () -> c.about(0, 4));
        c.stone(15, 0, 6);
        c.ground(0, 15, SAND);
        c.stone(0, 15, 2);
        due("x", c.about(0, 0), 15);
        due("y", c.about(0, 1), 0);
        due("radius", c.about(0, 2), 6);
        due("depth", c.about(0, 3), 24);
        due("x", c.about(1, 0), 0);
        due("y", c.about(1, 1), 15);
        due("radius", c.about(1, 2), 1);
        due("depth", c.about(1, 3), 6);
        c.flood(0, 15, 0, 15, 40);
        due("depth when gone", c.about(1, 3), 0);
        due("radius when gone", c.about(1, 2), 1);
        due("y when gone", c.about(1, 1), 15);
        fails("crater 2", INDEX, () -> c.about(2, 0));
        fails("crater -1", INDEX, () -> c.about(-1, 0));
        fails("what 4", ARGUMENT, () -> c.about(0, 4));
        fails("what -1", ARGUMENT, () -> c.about(0, -1));
    }

    private static void depthAnew() {
        promise = "promise 15";
        Craterclock c = new Craterclock();
        fails("none", INDEX, () -> c.depthAnew(0));
        c.soften(40);
        c.flood(0, 0, 15, 15, 40);
        c.ground(4, 4, SAND);
        c.stone(4, 4, 6);
        due("those ahead of it do nothing", c.depthAnew(0), 18);
        c.ground(4, 4, ICE);
        due("the ground when it fell", c.depthAnew(0), 18);
        c.soften(2);
        due("the ground when it softened", c.depthAnew(0), 14);
        c.ground(4, 4, ROCK);
        due("not the ground since", c.depthAnew(0), 14);
        c.soften(3);
        due("rock", c.depthAnew(0), 13);
        c.stone(5, 5, 2);
        due("blanketed", c.depthAnew(0), 11);
        c.flood(4, 4, 4, 4, 4);
        due("flooded", c.depthAnew(0), 7);
        due("the other is not", c.depthAnew(1), 8);
        c.stone(4, 4, 5);
        due("wiped out", c.depthAnew(0), 0);
        due("wiped out", c.depthAnew(1), 0);
        c.flood(0, 0, 15, 15, 40);
        due("never below 0", c.depthAnew(0), 0);
        due("never below 0", c.depthAnew(2), 0);
        fails("-1", INDEX, () -> c.depthAnew(-1));
        fails("3", INDEX, () -> c.depthAnew(3));
    }

    private static void top() {
        promise = "promises 16 and 17";
        Craterclock c = new Craterclock();
        c.stone(8, 8, 5);
        tops(c, 8, 8, 0);
        tops(c, 13, 8, 0);
        tops(c, 14, 8, NONE);
        tops(c, 12, 11, 0);
        tops(c, 12, 12, NONE);
        tops(c, 5, 4, 0);
        c.stone(11, 8, 2);
        tops(c, 11, 8, 1);
        tops(c, 9, 8, 1);
        tops(c, 8, 8, 0);
        c.flood(11, 8, 11, 8, 8);
        tops(c, 11, 8, 0);
        c.flood(8, 8, 8, 8, 17);
        tops(c, 8, 8, 0);
        c.flood(8, 8, 8, 8, 1);
        tops(c, 8, 8, NONE);
        c.stone(0, 0, 1);
        tops(c, 0, 0, 2);
        tops(c, 1, 0, 2);
        tops(c, 1, 1, NONE);
        fails("top x", INDEX, () -> c.top(-1, 0));
        fails("top x", INDEX, () -> c.top(16, 0));
        fails("top y", INDEX, () -> c.top(0, -1));
        fails("top y", INDEX, () -> c.top(0, 16));
        fails("topAnew x", INDEX, () -> c.topAnew(-1, 0));
        fails("topAnew x", INDEX, () -> c.topAnew(16, 0));
        fails("topAnew y", INDEX, () -> c.topAnew(0, -1));
        fails("topAnew y", INDEX, () -> c.topAnew(0, 16));
    }

    private static void tops(Craterclock c, int x, int y, int want) {
        due("top(" + x + ", " + y + ")", c.top(x, y), want);
        due("topAnew(" + x + ", " + y + ")", c.topAnew(x, y), want);
    }

    public static void main(String[] args) {
        newObject();
        ground();
        stoneSizes();
        stoneOnOlder();
        stoneByBlanket();
        stoneWrong();
        draw();
        rain();
        rainAsStones();
        rainWrong();
        flood();
        floodWrong();
        soften();
        softenWrong();
        eye();
        anchor();
        count();
        age();
        ageAtAnchors();
        ageWrong();
        whyNot();
        craters();
        about();
        depthAnew();
        top();
        System.out.println(asked + " answers, " + wrong + " of them not as due");
        if (wrong != 0) {
            System.exit(1);
        }
    }
}
