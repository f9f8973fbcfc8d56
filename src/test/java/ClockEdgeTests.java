/** Promises 8 to 12: each sentence of the document that names a boundary case, at its very edge. */
public final class ClockEdgeTests {
    private static final int SAND = 1, ICE = 2;
    private static final Check CHECK = new Check();

    /** A crater of a depth from 1 to 30 on a cell, with a radius of 7. */
    private static void dig(Craterclock c, int x, int y, int depth) {
        c.ground(x, y, ICE);
        c.stone(x, y, 6);
        if (depth < 30) {
            c.flood(x, y, x, y, 30 - depth);
        }
    }

    private static Craterclock dug(int depth, int skill) {
        Craterclock c = new Craterclock();
        dig(c, 8, 8, depth);
        c.eye(skill);
        return c;
    }

    private static long seen(Craterclock c, int eye) {
        return c.count(eye, 0, 0, 15, 15, 1);
    }

    /** Craters on one row of cells, three apart, so that none is less by another. */
    private static Craterclock row(int many) {
        Craterclock c = new Craterclock();
        for (int i = 0; i < many; i++) {
            c.stone(3 * (i % 6), 3 * (i / 6), 1);
        }
        c.eye(9);
        return c;
    }

    private static Craterclock withAnchors(Craterclock c, long... told) {
        for (int i = 0; i + 1 < told.length; i += 2) {
            c.anchor(told[i], told[i + 1]);
        }
        return c;
    }

    private static void age(String told, Craterclock c, int x, int y, int toX, int toY, long want) {
        CHECK.due("age " + told, c.age(0, x, y, toX, toY), want);
        CHECK.due("whyNot " + told, c.whyNot(0, x, y, toX, toY), 0);
    }

    private static void noAge(String told, Craterclock c, int x, int y, int toX, int toY, int why) {
        CHECK.fails("age " + told, Check.STATE, c, of -> of.age(0, x, y, toX, toY));
        CHECK.due("whyNot " + told, c.whyNot(0, x, y, toX, toY), why);
    }

    // ---- promise 8

    private static void eyesAreNumbered() {
        CHECK.sentence("8: Eyes are numbered from 0, at most 6");
        Craterclock c = new Craterclock();
        dig(c, 8, 8, 5);
        for (int eye = 0; eye < 6; eye++) {
            int next = eye;
            CHECK.fails("count of " + eye + " ahead of it", Check.INDEX, c, of -> seen(of, next));
            CHECK.fails("age of " + eye + " ahead of it", Check.INDEX, c, of -> of.age(next, 0, 0, 15, 15));
            CHECK.fails("whyNot of " + eye + " ahead of it", Check.INDEX, c, of -> of.whyNot(next, 0, 0, 15, 15));
            CHECK.due("number", c.eye(eye % 2 == 0 ? 4 : 5), eye);
            CHECK.due("whyNot", c.whyNot(eye, 0, 0, 15, 15), 1);
        }
        for (int eye = 0; eye < 6; eye++) {
            CHECK.due("each has its own skill, " + eye, seen(c, eye), eye % 2);
        }
        CHECK.fails("number 6", Check.INDEX, c, of -> seen(of, 6));
        CHECK.fails("number -1", Check.INDEX, c, of -> seen(of, -1));
        CHECK.refused("the seventh", Check.STATE, ClockEdgeTests::sixEyes, of -> of.eye(9));
        CHECK.refused("the seventh, of skill 10", Check.ARGUMENT, ClockEdgeTests::sixEyes, of -> of.eye(10));
    }

    private static Craterclock sixEyes() {
        Craterclock c = new Craterclock();
        dig(c, 8, 8, 5);
        for (int eye = 0; eye < 6; eye++) {
            c.eye(1 + eye);
        }
        return c;
    }

    private static void skills() {
        CHECK.sentence("8: each with a skill, 1 to 9");
        CHECK.refused("0", Check.ARGUMENT, () -> dug(9, 1), c -> c.eye(0));
        CHECK.refused("10", Check.ARGUMENT, () -> dug(9, 1), c -> c.eye(10));
        Craterclock c = new Craterclock();
        CHECK.due("1", c.eye(1), 0);
        CHECK.due("9", c.eye(9), 1);
        CHECK.due("9 again", c.eye(9), 2);
    }

    private static void atLeastTenLessTheSkill() {
        CHECK.sentence("8: sees craters that are not gone, with a depth of at least 10 less the skill");
        for (int skill = 1; skill <= 9; skill++) {
            CHECK.due("skill " + skill + ", at least", seen(dug(10 - skill, skill), 0), 1);
            CHECK.due("skill " + skill + ", more", seen(dug(11 - skill, skill), 0), 1);
            Craterclock less = dug(10 - skill, skill);
            less.flood(8, 8, 8, 8, 1);
            CHECK.due("skill " + skill + ", 1 less", seen(less, 0), 0);
        }
        Craterclock gone = dug(1, 9);
        gone.flood(8, 8, 8, 8, 40);
        CHECK.due("gone", seen(gone, 0), 0);
        Craterclock deep = new Craterclock();
        deep.ground(0, 0, SAND);
        deep.stone(0, 0, 3);
        deep.eye(1);
        CHECK.due("9 at first, by its depth", seen(deep, 0), 1);
        deep.soften(1);
        CHECK.due("8 now, by its depth as it is", seen(deep, 0), 0);
    }

    // ---- promise 9

    private static void anchorRanges() {
        CHECK.sentence("9: years: 1 to 5000000000, density: 1 to 100000000");
        Check.Made made = () -> withAnchors(row(1), 5, 5);
        CHECK.due("the least", new Craterclock().anchor(1, 1), 1);
        CHECK.due("the greatest", new Craterclock().anchor(5000000000L, 100000000L), 1);
        CHECK.due("the greatest, second", made.clock().anchor(5000000000L, 100000000L), 2);
        CHECK.refused("years 0", Check.ARGUMENT, made, c -> c.anchor(0, 6));
        CHECK.refused("years 1 too many", Check.ARGUMENT, made, c -> c.anchor(5000000001L, 6));
        CHECK.refused("density 0", Check.ARGUMENT, made, c -> c.anchor(6, 0));
        CHECK.refused("density 1 too many", Check.ARGUMENT, made, c -> c.anchor(6, 100000001L));
        CHECK.refused("years of 2 to the 33rd", Check.ARGUMENT, made, c -> c.anchor((1L << 33) + 6, 6));
        CHECK.refused("density of 2 to the 32nd", Check.ARGUMENT, made, c -> c.anchor(6, (1L << 32) + 6));
    }

    private static void moreOfBoth() {
        CHECK.sentence("9: one has not more of both than the last one");
        Check.Made made = () -> withAnchors(row(1), 3000000000L, 5000);
        CHECK.due("1 more of both", made.clock().anchor(3000000001L, 5001), 2);
        CHECK.refused("the same", Check.STATE, made, c -> c.anchor(3000000000L, 5000));
        CHECK.refused("the same years", Check.STATE, made, c -> c.anchor(3000000000L, 5001));
        CHECK.refused("the same density", Check.STATE, made, c -> c.anchor(3000000001L, 5000));
        CHECK.refused("less years", Check.STATE, made, c -> c.anchor(2999999999L, 100000000L));
        CHECK.refused("less density", Check.STATE, made, c -> c.anchor(5000000000L, 4999));
        CHECK.refused("less of both", Check.STATE, made, c -> c.anchor(1, 1));
        Check.Made three = () -> withAnchors(row(1), 1, 1, 10, 10, 20, 20);
        CHECK.refused("more than all but the last one", Check.STATE, three, c -> c.anchor(15, 15));
        CHECK.due("after one that threw, more than the last that did not", afterARefusal(made).anchor(3000000001L, 5001), 2);
        CHECK.refused("no range, no more", Check.ARGUMENT, made, c -> c.anchor(0, 4999));
    }

    private static Craterclock afterARefusal(Check.Made made) {
        Craterclock c = made.clock();
        CHECK.fails("the same density", Check.STATE, c, of -> of.anchor(4000000000L, 5000));
        return c;
    }

    private static void atMostEightAnchors() {
        CHECK.sentence("9: at most 8. Returns how many there are");
        Craterclock c = row(1);
        for (int i = 1; i <= 8; i++) {
            CHECK.due("anchor " + i, c.anchor(i, i), i);
        }
        Check.Made eight = () -> withAnchors(row(1), 1, 1, 2, 2, 3, 3, 4, 4, 5, 5, 6, 6, 7, 7, 8, 8);
        CHECK.refused("a ninth with more of both", Check.STATE, eight, of -> of.anchor(5000000000L, 100000000L));
        CHECK.refused("a ninth with less of both", Check.STATE, eight, of -> of.anchor(1, 1));
        CHECK.refused("a ninth out of range", Check.ARGUMENT, eight, of -> of.anchor(5000000001L, 100000000L));
    }

    // ---- promise 10

    private static void countsRadii() {
        CHECK.sentence("10: with a radius that is at least as great as told; least: 1 to 7");
        for (int size = 0; size <= 6; size++) {
            Craterclock c = new Craterclock();
            c.ground(4, 4, size == 0 ? 0 : ICE);
            c.stone(4, 4, Math.max(1, size));
            c.eye(9);
            for (int least = 1; least <= 7; least++) {
                CHECK.due("radius " + (size + 1) + " of at least " + least, c.count(0, 0, 0, 15, 15, least),
                        least <= size + 1 ? 1 : 0);
            }
        }
        Check.Made made = () -> dug(30, 9);
        CHECK.refused("0", Check.ARGUMENT, made, c -> c.count(0, 0, 0, 15, 15, 0));
        CHECK.refused("8", Check.ARGUMENT, made, c -> c.count(0, 0, 0, 15, 15, 8));
    }

    private static void countsCells() {
        CHECK.sentence("10: how many craters on its cells");
        for (int n = 0; n < 256; n++) {
            int x = n % 16;
            int y = n / 16;
            Craterclock c = new Craterclock();
            dig(c, x, y, 30);
            c.eye(1);
            boolean on = x >= 3 && x <= 9 && y >= 5 && y <= 12;
            CHECK.due("of " + x + ", " + y + " on a field", c.count(0, 3, 5, 9, 12, 7), on ? 1 : 0);
            CHECK.due("on its cell alone", c.count(0, x, y, x, y, 7), 1);
            CHECK.due("on all cells", c.count(0, 0, 0, 15, 15, 7), 1);
            CHECK.due("beside it, where it reaches", c.count(0, x == 15 ? 14 : x + 1, y, x == 15 ? 14 : 15, y, 1), 0);
        }
    }

    private static void countsAll() {
        CHECK.sentence("10: the count of an eye - each crater on a cell, those that are gone not");
        Craterclock c = new Craterclock();
        c.eye(9);
        CHECK.due("of none", seen(c, 0), 0);
        for (int size = 6; size >= 1; size--) {
            c.stone(8, 8, size);
        }
        CHECK.due("six on one cell", c.count(0, 8, 8, 8, 8, 1), 6);
        CHECK.due("of radii from 3", c.count(0, 8, 8, 8, 8, 3), 4);
        c.stone(8, 8, 3);
        CHECK.due("three wiped out, one new", c.count(0, 8, 8, 8, 8, 1), 4);
    }

    private static void countsWhere() {
        CHECK.sentence("10: IndexOutOfBoundsException as told, of the eye or the field; IllegalArgumentException or as told");
        Check.Made made = () -> dug(30, 9);
        CHECK.due("to where it begins", made.clock().count(0, 8, 8, 8, 8, 1), 1);
        CHECK.refused("x back by 1", Check.ARGUMENT, made, c -> c.count(0, 9, 8, 8, 8, 1));
        CHECK.refused("y back by 1", Check.ARGUMENT, made, c -> c.count(0, 8, 9, 8, 8, 1));
        CHECK.refused("to x 16", Check.INDEX, made, c -> c.count(0, 8, 8, 16, 8, 1));
        CHECK.refused("to y 16", Check.INDEX, made, c -> c.count(0, 8, 8, 8, 16, 1));
        CHECK.refused("to x -1, back too", Check.INDEX, made, c -> c.count(0, 8, 8, -1, 8, 1));
        CHECK.refused("to y -1, back too, and least 0", Check.INDEX, made, c -> c.count(0, 8, 8, 8, -1, 0));
        CHECK.refused("eye 1, back and least 8", Check.INDEX, made, c -> c.count(1, 9, 8, 8, 8, 8));
        CHECK.refused("eye -1", Check.INDEX, made, c -> c.count(-1, 0, 0, 15, 15, 1));
    }

    // ---- promises 11 and 12

    private static void fewerThanTwoAnchors() {
        CHECK.sentence("11, 12: There is none with fewer than 2 anchors, whatever the density, 1");
        noAge("of none, density 0", row(0), 0, 0, 15, 15, 1);
        noAge("of none, density 1000", row(1), 0, 0, 15, 15, 1);
        noAge("of one, density 0", withAnchors(row(0), 5, 1000), 0, 0, 15, 15, 1);
        noAge("of one, density below", withAnchors(row(1), 5, 1001), 0, 0, 15, 15, 1);
        noAge("of one, density of it", withAnchors(row(1), 5, 1000), 0, 0, 15, 15, 1);
        noAge("of one, density above", withAnchors(row(1), 5, 999), 0, 0, 15, 15, 1);
        age("of two", withAnchors(row(1), 5, 999, 6, 1000), 0, 0, 15, 15, 6);
    }

    private static void aboveTheLast() {
        CHECK.sentence("11, 12: or with a density above that of the last one, 2");
        age("1000 of 1000", withAnchors(row(1), 7, 10, 9, 1000), 0, 0, 15, 15, 9);
        age("1000 of 1001", withAnchors(row(1), 7, 10, 9, 1001), 0, 0, 15, 15, 8);
        noAge("1000 of 999", withAnchors(row(1), 7, 10, 9, 999), 0, 0, 15, 15, 2);
        noAge("above both", withAnchors(row(1), 7, 10, 9, 11), 0, 0, 15, 15, 2);
        Craterclock c = withAnchors(row(1), 7, 10, 9, 11);
        age("of density 0", c, 1, 1, 15, 15, 0);
        c.anchor(10, 255999);
        noAge("256000 of 255999", c, 0, 0, 0, 0, 2);
        c.anchor(11, 256000);
        age("256000 of 256000", c, 0, 0, 0, 0, 11);
        Craterclock eight = withAnchors(row(1), 1, 1, 2, 2, 3, 3, 4, 4, 5, 5, 6, 6, 7, 7, 8, 999);
        noAge("above the eighth", eight, 0, 0, 15, 15, 2);
        Craterclock upToEight = withAnchors(row(1), 1, 1, 2, 2, 3, 3, 4, 4, 5, 5, 6, 6, 7, 7, 8, 1000);
        age("the eighth", upToEight, 0, 0, 15, 15, 8);
    }

    /** Anchors one density apart tell a density by the years: n of n. */
    private static void densities() {
        CHECK.sentence("11: that count, times 256000, divided by how many cells the field has, rounded down");
        int[][] rows = {
            {1, 0, 0, 15, 15, 1000}, {1, 0, 0, 14, 15, 1066}, {1, 0, 0, 15, 14, 1066}, {1, 0, 0, 14, 14, 1137},
            {1, 0, 0, 0, 0, 256000}, {1, 0, 0, 1, 0, 128000}, {1, 0, 0, 0, 1, 128000}, {1, 0, 0, 2, 0, 85333},
            {1, 0, 0, 1, 2, 42666}, {2, 0, 0, 6, 0, 73142}, {2, 1, 0, 3, 0, 85333}, {2, 3, 0, 15, 15, 1230},
            {3, 0, 0, 6, 1, 54857}, {36, 0, 0, 15, 15, 36000}, {36, 0, 0, 15, 14, 32000}, {36, 0, 0, 14, 14, 28444},
        };
        for (int[] r : rows) {
            String told = "of " + r[0] + " on " + r[1] + ", " + r[2] + ", " + r[3] + ", " + r[4];
            Craterclock c = withAnchors(row(r[0]), 1, 1, 256001, 256001);
            age(told, c, r[1], r[2], r[3], r[4], r[5]);
            Craterclock at = withAnchors(row(r[0]), 1, 1, 2, r[5]);
            age("at the last, " + told, at, r[1], r[2], r[3], r[4], 2);
            Craterclock above = withAnchors(row(r[0]), 1, 1, 2, r[5] - 1);
            noAge("above the last, " + told, above, r[1], r[2], r[3], r[4], 2);
        }
    }

    private static void densityOfWhatIsSeen() {
        CHECK.sentence("11: The density of a field is that count, of radii from 1 on");
        Craterclock c = new Craterclock();
        c.eye(5);
        c.eye(6);
        withAnchors(c, 1, 1, 256001, 256001);
        c.stone(0, 0, 1);
        c.stone(15, 15, 2);
        CHECK.due("the lesser eye sees one", c.age(0, 0, 0, 15, 15), 1000);
        CHECK.due("the greater eye sees two", c.age(1, 0, 0, 15, 15), 2000);
        c.flood(0, 0, 15, 15, 4);
        CHECK.due("the lesser eye sees none", c.age(0, 0, 0, 15, 15), 0);
        CHECK.due("the greater eye sees one", c.age(1, 0, 0, 15, 15), 1000);
        c.soften(2);
        CHECK.due("the greater eye sees none", c.age(1, 0, 0, 15, 15), 0);
        CHECK.due("there is an age", c.whyNot(1, 0, 0, 15, 15), 0);
    }

    private static void upToTheFirst() {
        CHECK.sentence("11: with a density of 0 it is 0 years; up to that of the first anchor its years times the density, divided");
        long[] far = {4999999999L, 99999999L, 5000000000L, 100000000L};
        age("density 0", withAnchors(row(1), far), 1, 0, 15, 15, 0);
        age("density 1000: 49999.99", withAnchors(row(1), far), 0, 0, 15, 15, 50000);
        age("density 1000 of 999999: 0.001", withAnchors(row(1), 1, 999999, 2, 1000000), 0, 0, 15, 15, 0);
        age("density 1000 of 1001: 0.999", withAnchors(row(1), 1, 1001, 2, 1002), 0, 0, 15, 15, 0);
        age("density 1000 of 1001: 999.0009", withAnchors(row(1), 1000, 1001, 2000, 1002), 0, 0, 15, 15, 999);
        age("density 1000 of 1001: 1998.0019", withAnchors(row(1), 2000, 1001, 2001, 1002), 0, 0, 15, 15, 1998);
        age("density 1000 of 1000", withAnchors(row(1), 77, 1000, 99, 1001), 0, 0, 15, 15, 77);
        age("just above the first", withAnchors(row(1), 77, 999, 99, 1021), 0, 0, 15, 15, 78);
        age("the greatest, 256000", withAnchors(row(1), far), 0, 0, 0, 0, 12800000L);
        age("36 of the greatest, 36000", withAnchors(row(36), 4999999999L, 36000, 5000000000L, 36001), 0, 0, 15, 15, 4999999999L);
    }

    private static void between() {
        CHECK.sentence("11: between two anchors the years of the lower one, and what the upper one has more, times .. all rounded down");
        age("10 and 9 times 990, by 991: 8.99", withAnchors(row(1), 10, 10, 19, 1001), 0, 0, 15, 15, 18);
        age("10 and 991 times 990, by 991", withAnchors(row(1), 10, 10, 1001, 1001), 0, 0, 15, 15, 1000);
        age("10 and 1 times 990, by 991", withAnchors(row(1), 10, 10, 11, 1001), 0, 0, 15, 15, 10);
        age("10 and 3 times 500, by 1000: 1.5", withAnchors(row(1), 10, 500, 13, 1500), 0, 0, 15, 15, 11);
        age("at the upper", withAnchors(row(1), 10, 500, 13, 1000, 99, 1001), 0, 0, 15, 15, 13);
        age("1 above the upper: 13 and 86 by 3", withAnchors(row(1), 10, 500, 13, 999, 99, 1002), 0, 0, 15, 15, 41);
        age("far apart", withAnchors(row(1), 1, 1, 5000000000L, 100000000L), 0, 0, 15, 15, 1 + 4999999999L * 999 / 99999999L);
        age("far apart, 256000", withAnchors(row(1), 1, 1, 5000000000L, 100000000L), 0, 0, 0, 0, 12799951L);
    }

    /** Seven radii, each less than the one before, are the most craters that can be seen on one cell. */
    private static void manyOnOneCell() {
        CHECK.sentence("11: a density so great that products need all of a long");
        Craterclock c = new Craterclock();
        c.eye(9);
        c.ground(8, 8, ICE);
        c.stone(8, 8, 6);
        c.ground(8, 8, 0);
        for (int size = 6; size >= 1; size--) {
            c.stone(8, 8, size);
        }
        withAnchors(c, 1, 1, 5000000000L, 1792001);
        age("1792000, the greatest: 1 and 4999999999 times 1791999, by 1792000", c, 8, 8, 8, 8, 4999997209L);
    }

    private static void eightAnchors() {
        CHECK.sentence("11: between two anchors, of up to eight");
        long[] told = {100, 1000, 250, 3000, 333, 4000, 1000, 10000, 1001, 11000, 5001, 13000, 9000, 20000, 5000000000L, 36000};
        int[][] rows = {
            {0, 0}, {1, 100}, {2, 175}, {3, 250}, {4, 333}, {5, 444}, {6, 555}, {7, 666}, {8, 777}, {9, 888}, {10, 1000},
            {11, 1001}, {12, 3001}, {13, 5001}, {14, 5572}, {19, 8428}, {20, 9000}, {21, 312508437},
        };
        for (int[] row : rows) {
            age("of " + row[0], withAnchors(row(row[0]), told), 0, 0, 15, 15, row[1]);
        }
        age("of 36", withAnchors(row(36), told), 0, 0, 15, 15, 5000000000L);
        noAge("of 36 and a smaller field", withAnchors(row(36), told), 0, 0, 15, 12, 2);
    }

    private static void agesWhere() {
        CHECK.sentence("11, 12: IndexOutOfBoundsException as told, of the eye or the field; IllegalArgumentException, of the field");
        Check.Made[] all = {() -> row(1), () -> withAnchors(row(1), 5, 1, 6, 2), () -> withAnchors(row(1), 5, 999, 6, 1000)};
        for (Check.Made made : all) {
            int[][] none = {{1, 0, 0, 15, 15}, {-1, 0, 0, 15, 15}, {0, 16, 0, 15, 15}, {0, 0, 16, 15, 15}, {0, 0, 0, 16, 15},
                {0, 0, 0, 15, 16}, {0, -1, 0, 15, 15}, {0, 0, -1, 15, 15}, {0, 0, 0, -1, 15}, {0, 0, 0, 15, -1}, {1, 1, 0, 0, 15}};
            for (int[] a : none) {
                CHECK.refused("age", Check.INDEX, made, c -> c.age(a[0], a[1], a[2], a[3], a[4]));
                CHECK.refused("whyNot", Check.INDEX, made, c -> c.whyNot(a[0], a[1], a[2], a[3], a[4]));
            }
            int[][] back = {{1, 0, 0, 15}, {0, 1, 15, 0}, {15, 0, 14, 15}, {0, 15, 15, 14}, {8, 8, 7, 7}};
            for (int[] a : back) {
                CHECK.refused("age", Check.ARGUMENT, made, c -> c.age(0, a[0], a[1], a[2], a[3]));
                CHECK.refused("whyNot", Check.ARGUMENT, made, c -> c.whyNot(0, a[0], a[1], a[2], a[3]));
            }
        }
        CHECK.refused("no age", Check.STATE, all[0], c -> c.age(0, 0, 0, 15, 15));
        CHECK.refused("no age", Check.STATE, all[1], c -> c.age(0, 0, 0, 15, 15));
        age("of one", all[2].clock(), 0, 0, 15, 15, 6);
        age("of one cell without craters", all[1].clock(), 15, 15, 15, 15, 0);
    }

    public static void main(String[] args) {
        eyesAreNumbered();
        skills();
        atLeastTenLessTheSkill();
        anchorRanges();
        moreOfBoth();
        atMostEightAnchors();
        countsRadii();
        countsCells();
        countsAll();
        countsWhere();
        fewerThanTwoAnchors();
        aboveTheLast();
        densities();
        densityOfWhatIsSeen();
        upToTheFirst();
        between();
        manyOnOneCell();
        eightAnchors();
        agesWhere();
        CHECK.end();
    }
}
