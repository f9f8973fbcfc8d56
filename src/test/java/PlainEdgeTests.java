/** Promises 1 to 7: each sentence of the document that names a boundary case, at its very edge. */
public final class PlainEdgeTests {
    private static final int ROCK = 0, SAND = 1, ICE = 2, NONE = -1;
    private static final int[][] RADII = {{1, 2, 3, 4, 5, 6}, {1, 1, 2, 3, 4, 5}, {2, 3, 4, 5, 6, 7}};
    private static final int[][] DEPTHS = {{4, 8, 12, 16, 20, 24}, {3, 6, 9, 12, 15, 18}, {5, 10, 15, 20, 25, 30}};
    private static final Check CHECK = new Check();

    private static Craterclock with(int x, int y, int ground, int size) {
        return alsoWith(new Craterclock(), x, y, ground, size);
    }

    private static Craterclock alsoWith(Craterclock c, int x, int y, int ground, int size) {
        c.ground(x, y, ground);
        c.stone(x, y, size);
        return c;
    }

    private static void depth(String told, Craterclock c, int crater, int want) {
        CHECK.due("depth " + told, c.about(crater, 3), want);
        CHECK.due("depth anew " + told, c.depthAnew(crater), want);
    }

    // ---- promise 1

    private static void beginsWithRock() {
        CHECK.sentence("1: Begins with a plain of ROCK");
        Craterclock c = new Craterclock();
        for (int n = 0; n < 256; n++) {
            CHECK.due("cell " + n, c.ground(n % 16, n / 16, SAND), ROCK);
        }
        for (int corner : new int[] {0, 15}) {
            Craterclock hit = new Craterclock();
            hit.stone(corner, 15 - corner, 3);
            CHECK.due("radius", hit.about(0, 2), 3);
            CHECK.due("depth", hit.about(0, 3), 12);
            hit.soften(3);
            CHECK.due("softened as rock", hit.about(0, 3), 11);
        }
    }

    private static void beginsWithoutCraters() {
        CHECK.sentence("1: without craters");
        Craterclock c = new Craterclock();
        CHECK.due("craters", c.craters(), 0);
        CHECK.fails("about", Check.INDEX, c, of -> of.about(0, 0));
        CHECK.fails("depthAnew", Check.INDEX, c, of -> of.depthAnew(0));
        CHECK.due("a flood of none", c.flood(0, 0, 15, 15, 40), 0);
        CHECK.due("a softening of none", c.soften(40), 0);
        CHECK.due("a stone on none", c.stone(0, 0, 6), 0);
        Craterclock tops = new Craterclock();
        for (int n = 0; n < 256; n++) {
            CHECK.due("top of " + n, tops.top(n % 16, n / 16), NONE);
        }
        for (int n = 0; n < 256; n++) {
            CHECK.due("top anew of " + n, tops.topAnew(n % 16, n / 16), NONE);
        }
    }

    private static void beginsWithoutEyesAndAnchors() {
        CHECK.sentence("1: without eyes and anchors");
        Craterclock c = new Craterclock();
        CHECK.fails("count", Check.INDEX, c, of -> of.count(0, 0, 0, 15, 15, 1));
        CHECK.fails("age", Check.INDEX, c, of -> of.age(0, 0, 0, 15, 15));
        CHECK.fails("whyNot", Check.INDEX, c, of -> of.whyNot(0, 0, 0, 15, 15));
        CHECK.due("the first eye", c.eye(1), 0);
        CHECK.due("count of none", c.count(0, 0, 0, 15, 15, 1), 0);
        CHECK.due("whyNot", c.whyNot(0, 0, 0, 15, 15), 1);
        CHECK.fails("age", Check.STATE, c, of -> of.age(0, 0, 0, 15, 15));
        CHECK.due("the first anchor", c.anchor(1, 1), 1);
    }

    private static void sharesNothing() {
        CHECK.sentence("1: a new object, whatever others there are");
        Craterclock other = new Craterclock();
        other.ground(0, 0, ICE);
        other.rain(30);
        other.soften(1);
        other.eye(9);
        other.anchor(1, 1);
        CHECK.same("a second object", Craterclock::new, Check.states(() -> {
            Craterclock c = new Craterclock();
            c.ground(0, 0, ROCK);
            return c;
        }));
        CHECK.due("still 30", other.craters(), 30);
    }

    private static void constants() {
        CHECK.sentence("the constants");
        CHECK.due("NONE", Craterclock.NONE, -1);
        CHECK.due("ROCK", Craterclock.ROCK, 0);
        CHECK.due("SAND", Craterclock.SAND, 1);
        CHECK.due("ICE", Craterclock.ICE, 2);
    }

    private static void callsUpTo512() {
        CHECK.sentence("An object is used for at most 512 calls");
        Craterclock c = new Craterclock();
        for (int call = 1; call <= 200; call++) {
            c.stone(8, 8, 1);
        }
        for (int call = 201; call <= 300; call++) {
            c.soften(1);
        }
        for (int call = 301; call <= 511; call++) {
            c.ground(call % 16, 9, ICE);
        }
        CHECK.due("call 512", c.topAnew(8, 8), 199);
    }

    // ---- promise 2

    private static void tellsOfEachCellAlone() {
        CHECK.sentence("2: Tells of what a cell is. Returns of what it was");
        Craterclock c = new Craterclock();
        for (int n = 0; n < 256; n++) {
            CHECK.due("first, of " + n, c.ground(n % 16, n / 16, (n + n / 16) % 3), ROCK);
        }
        for (int n = 0; n < 256; n++) {
            CHECK.due("then, of " + n, c.ground(n % 16, n / 16, ROCK), (n + n / 16) % 3);
        }
    }

    private static void tellsAnyAfterAny() {
        CHECK.sentence("2: ground: ROCK to ICE");
        int[] told = {ROCK, SAND, SAND, ICE, ICE, SAND, ROCK, ICE, ROCK, ROCK};
        for (int corner = 0; corner < 4; corner++) {
            int x = corner % 2 * 15;
            int y = corner / 2 * 15;
            Craterclock c = new Craterclock();
            for (int i = 0; i < told.length; i++) {
                CHECK.due("cell " + x + ", " + y, c.ground(x, y, told[i]), i == 0 ? ROCK : told[i - 1]);
            }
        }
        CHECK.refused("ground 3", Check.ARGUMENT, () -> with(5, 5, ICE, 1), c -> c.ground(5, 5, 3));
        CHECK.refused("ground -1", Check.ARGUMENT, () -> with(5, 5, SAND, 1), c -> c.ground(5, 5, -1));
        CHECK.refused("cell and ground", Check.INDEX, () -> with(5, 5, SAND, 1), c -> c.ground(5, 16, 3));
    }

    private static void cratersKeepTheirSize() {
        CHECK.sentence("2: a crater goes by the ground that it fell on, not by a later one");
        for (int ground = ROCK; ground <= ICE; ground++) {
            Craterclock c = with(5, 5, ground, 4);
            for (int later = ROCK; later <= ICE; later++) {
                c.ground(5, 5, later);
                CHECK.due("radius", c.about(0, 2), RADII[ground][3]);
                depth("on " + ground, c, 0, DEPTHS[ground][3]);
                CHECK.due("top at its radius", c.top(5 + RADII[ground][3], 5), 0);
            }
        }
    }

    // ---- promise 3

    private static void sizes() {
        CHECK.sentence("3: on ROCK with the radius of its size .. on SAND 1 less, but at least 1 .. on ICE 1 more");
        for (int ground = ROCK; ground <= ICE; ground++) {
            for (int size = 1; size <= 6; size++) {
                Craterclock c = with(0, 15, ground, size);
                CHECK.due("radius on " + ground + " of " + size, c.about(0, 2), RADII[ground][size - 1]);
                depth("on " + ground + " of " + size, c, 0, DEPTHS[ground][size - 1]);
            }
        }
    }

    private static void atLeastOneOnSand() {
        CHECK.sentence("3: on SAND with a radius 1 less, but at least 1");
        Craterclock c = with(5, 5, SAND, 1);
        CHECK.due("top beside it", c.top(6, 5), 0);
        CHECK.due("wipes out one beside it", alsoWith(c, 5, 6, SAND, 1).about(0, 3), 0);
        CHECK.due("size 2 has it too", with(5, 5, SAND, 2).about(0, 2), 1);
        CHECK.due("size 3 has more", with(5, 5, SAND, 3).about(0, 2), 2);
    }

    private static void notGreater() {
        CHECK.sentence("3: if its radius is not greater");
        for (int older = 0; older < 18; older++) {
            for (int newer = 0; newer < 18; newer++) {
                int olderRadius = RADII[older / 6][older % 6];
                int newerRadius = RADII[newer / 6][newer % 6];
                Craterclock c = with(8, 8, older / 6, older % 6 + 1);
                c.ground(8, 8, newer / 6);
                int left = Math.max(0, DEPTHS[older / 6][older % 6] - (newer % 6 + 1));
                boolean gone = olderRadius <= newerRadius;
                CHECK.due(older + " by " + newer, c.stone(8, 8, newer % 6 + 1), gone ? 1 : 0);
                depth(older + " by " + newer, c, 0, gone ? 0 : left);
            }
        }
    }

    private static void radiusNotSizeCounts() {
        CHECK.sentence("3: if its radius is not greater - its radius, not its size or depth");
        CHECK.due("radius 2 of sand's 3 by rock's 2", alsoWith(with(8, 8, SAND, 3), 8, 9, ROCK, 2).about(0, 3), 0);
        CHECK.due("radius 2 of ice's 1 by rock's 1", alsoWith(with(8, 8, ICE, 1), 8, 9, ROCK, 1).about(0, 3), 4);
        CHECK.due("radius 3 of rock's 3 by sand's 3", alsoWith(with(8, 8, ROCK, 3), 8, 9, SAND, 3).about(0, 3), 9);
        CHECK.due("radius 7 by radius 6", alsoWith(with(8, 8, ICE, 6), 8, 9, ROCK, 6).about(0, 3), 24);
        CHECK.due("radius 7 by radius 7", alsoWith(with(8, 8, ICE, 6), 8, 9, ICE, 6).about(0, 3), 0);
    }

    private static void notFartherThanTheNewRadius() {
        CHECK.sentence("3: and it is not farther away than the new radius");
        CHECK.due("25 of 25", alsoWith(with(3, 4, ROCK, 1), 0, 0, ROCK, 5).about(0, 3), 0);
        CHECK.due("25 of 25, to the other side", alsoWith(with(10, 10, ROCK, 5), 14, 13, ROCK, 5).about(0, 3), 0);
        CHECK.due("26 of 25", alsoWith(with(5, 1, ROCK, 5), 0, 0, ROCK, 5).about(0, 3), 15);
        CHECK.due("26 of 25, to the other side", alsoWith(with(10, 10, ROCK, 5), 9, 15, ROCK, 5).about(0, 3), 15);
        CHECK.due("1 of 1", alsoWith(with(8, 8, ROCK, 1), 7, 8, ROCK, 1).about(0, 3), 0);
        CHECK.due("2 of 1", alsoWith(with(8, 8, ROCK, 1), 7, 7, ROCK, 1).about(0, 3), 3);
        CHECK.due("49 of 49", alsoWith(with(8, 8, ICE, 6), 15, 8, ICE, 6).about(0, 3), 0);
        CHECK.due("50 of 49", alsoWith(with(8, 8, ICE, 6), 15, 9, ICE, 6).about(0, 3), 24);
        CHECK.due("within both, not within the new", alsoWith(with(8, 8, SAND, 5), 8, 13, ROCK, 4).about(0, 3), 11);
    }

    private static void notFartherThanBoth() {
        CHECK.sentence("3: otherwise, if it is not farther away than both radii together");
        CHECK.due("25 of 25", alsoWith(with(0, 0, ROCK, 3), 4, 3, ROCK, 2).about(0, 3), 10);
        CHECK.due("25 of 25, newer greater", alsoWith(with(0, 0, ROCK, 2), 0, 5, ROCK, 3).about(0, 3), 5);
        CHECK.due("26 of 25", alsoWith(with(0, 0, ROCK, 3), 5, 1, ROCK, 2).about(0, 3), 12);
        CHECK.due("26 of 25, newer greater", alsoWith(with(15, 15, ROCK, 2), 10, 14, ROCK, 3).about(0, 3), 8);
        CHECK.due("4 of 4", alsoWith(with(8, 8, SAND, 1), 10, 8, SAND, 2).about(0, 3), 1);
        CHECK.due("5 of 4", alsoWith(with(8, 8, SAND, 1), 10, 9, SAND, 2).about(0, 3), 3);
        CHECK.due("169 of 169", alsoWith(with(0, 0, ICE, 6), 12, 5, ROCK, 6).about(0, 3), 24);
        CHECK.due("170 of 169", alsoWith(with(0, 0, ICE, 6), 13, 1, ROCK, 6).about(0, 3), 30);
        CHECK.due("corner to corner", alsoWith(with(0, 0, ICE, 6), 15, 15, ICE, 6).about(0, 3), 30);
    }

    private static void eachAtEachDistance() {
        CHECK.sentence("3: dx times dx and dy times dy, together, is the square of that");
        for (int older = 0; older < 18; older++) {
            for (int newer = 0; newer < 18; newer++) {
                for (int n = 0; n < 256; n++) {
                    eachAtDistance(older, newer, n % 16, n / 16, n % 4);
                }
            }
        }
    }

    private static void eachAtDistance(int older, int newer, int dx, int dy, int corner) {
        int x = corner % 2 * 15;
        int y = corner / 2 * 15;
        Craterclock c = with(x, y, older / 6, older % 6 + 1);
        int toX = corner % 2 == 0 ? dx : 15 - dx;
        int toY = corner / 2 == 0 ? dy : 15 - dy;
        c.ground(toX, toY, newer / 6);
        int far = dx * dx + dy * dy;
        int radius = RADII[older / 6][older % 6];
        int reach = RADII[newer / 6][newer % 6];
        int left = DEPTHS[older / 6][older % 6];
        if (radius <= reach && far <= reach * reach) {
            left = 0;
        } else if (far <= (radius + reach) * (radius + reach)) {
            left = Math.max(0, left - (newer % 6 + 1));
        }
        String told = older + " by " + newer + ", " + dx + " and " + dy + " away";
        CHECK.due("gone, " + told, c.stone(toX, toY, newer % 6 + 1), left == 0 ? 1 : 0);
        CHECK.due("depth, " + told, c.about(0, 3), left);
        CHECK.due("depth anew, " + told, c.depthAnew(0), left);
        CHECK.due("of the newer, " + told, c.about(1, 3), DEPTHS[newer / 6][newer % 6]);
    }

    private static void lessByTheSize() {
        CHECK.sentence("3: its depth is less by the size of the stone - not by its radius or depth");
        CHECK.due("ice's 3, radius 4", alsoWith(with(8, 8, ROCK, 6), 9, 8, ICE, 3).about(0, 3), 21);
        CHECK.due("sand's 3, radius 2", alsoWith(with(8, 8, ROCK, 6), 9, 8, SAND, 3).about(0, 3), 21);
        CHECK.due("sand's 1, radius 1", alsoWith(with(8, 8, ROCK, 6), 9, 8, SAND, 1).about(0, 3), 23);
        CHECK.due("sand's 6, radius 5", alsoWith(with(8, 8, ROCK, 6), 9, 8, SAND, 6).about(0, 3), 18);
    }

    private static void goneAtZero() {
        CHECK.sentence("3: A crater is gone, for good, when its depth is 0 or less; it is 0 then");
        Craterclock one = with(8, 8, SAND, 1);
        CHECK.due("3 less 2 is not gone", one.stone(8, 11, 2), 0);
        depth("of 1", one, 0, 1);
        CHECK.due("top", one.top(8, 8), 0);
        CHECK.due("1 less 1 is", one.stone(10, 8, 1), 1);
        depth("of 0", one, 0, 0);
        CHECK.due("top", one.top(8, 8), NONE);
        Craterclock zero = with(8, 8, SAND, 1);
        CHECK.due("3 less 3 is gone", zero.stone(8, 12, 3), 1);
        depth("of 0", zero, 0, 0);
        Craterclock less = with(8, 8, SAND, 1);
        CHECK.due("3 less 6 is gone", less.stone(8, 15, 6), 1);
        depth("below 0", less, 0, 0);
        CHECK.due("for good", less.stone(8, 15, 6), 1);
        CHECK.due("for good", less.soften(1), 0);
        depth("still 0", less, 0, 0);
    }

    private static void eachOlderByNumbers() {
        CHECK.sentence("3: each older one that is not gone, by numbers");
        int[][] cells = {{8, 8}, {4, 8}, {12, 8}, {8, 4}, {8, 12}, {0, 0}, {15, 15}};
        for (int first = 0; first < cells.length; first++) {
            Craterclock c = new Craterclock();
            for (int i = 0; i < cells.length; i++) {
                int[] cell = cells[(first + i) % cells.length];
                c.stone(cell[0], cell[1], 1);
            }
            CHECK.due("five are within 4", c.stone(8, 8, 4), 5);
            for (int i = 0; i < cells.length; i++) {
                depth("of " + i + " from " + first, c, i, (first + i) % cells.length >= 5 ? 4 : 0);
            }
            CHECK.due("those that are gone are not gone again", c.stone(8, 8, 6), 1);
        }
    }

    private static void inEitherWay() {
        CHECK.sentence("3: Returns how many older craters are gone by it, in either way");
        Craterclock c = new Craterclock();
        c.ground(8, 14, SAND);
        c.stone(8, 14, 1);
        c.stone(15, 15, 6);
        c.stone(8, 7, 2);
        c.stone(0, 0, 1);
        CHECK.due("before", c.about(0, 3) + c.about(1, 3) + c.about(2, 3) + c.about(3, 3), 3 + 24 + 8 + 4);
        CHECK.due("one wiped out, one blanketed away, one blanketed", c.stone(8, 8, 5), 2);
        depth("blanketed away", c, 0, 0);
        depth("blanketed", c, 1, 19);
        depth("wiped out", c, 2, 0);
        depth("too far", c, 3, 4);
        depth("the new one", c, 4, 20);
    }

    private static void atMost200() {
        CHECK.sentence("3: numbered from 0, at most 200 - those that are gone with them");
        Craterclock c = stones(199);
        CHECK.due("the 200th", c.stone(3, 3, 6), 0);
        CHECK.due("its number", c.top(3, 3), 199);
        CHECK.due("its x", c.about(199, 0), 3);
        CHECK.fails("a number more", Check.INDEX, c, of -> of.about(200, 0));
        CHECK.refused("the 201st", Check.STATE, () -> stones(200), of -> of.stone(0, 0, 1));
        CHECK.refused("the 201st, of a wrong size", Check.ARGUMENT, () -> stones(200), of -> of.stone(0, 0, 7));
        CHECK.refused("the 201st, of a wrong cell", Check.INDEX, () -> stones(200), of -> of.stone(16, 0, 7));
    }

    /** Stones on one cell, each of which wipes out the one before it. */
    private static Craterclock stones(int many) {
        Craterclock c = new Craterclock();
        for (int i = 0; i < many; i++) {
            CHECK.due("gone by stone " + i, c.stone(15, 15, 1), i == 0 ? 0 : 1);
        }
        return c;
    }

    // ---- promise 4

    private static void draws() {
        CHECK.sentence("4: x: 1 to 65536. Returns the one before. 1 at first");
        Craterclock c = new Craterclock();
        CHECK.due("at first", c.draw(65536), 1);
        CHECK.due("the greatest", c.draw(1), 65536);
        CHECK.due("the least", c.draw(40000), 1);
        CHECK.due("told", c.draw(40000), 40000);
        CHECK.due("the same", c.draw(2), 40000);
        CHECK.refused("0", Check.ARGUMENT, PlainEdgeTests::drawn7, of -> of.draw(0));
        CHECK.refused("65537", Check.ARGUMENT, PlainEdgeTests::drawn7, of -> of.draw(65537));
    }

    private static Craterclock drawn7() {
        Craterclock c = new Craterclock();
        c.draw(7);
        return c;
    }

    /** What is drawn from a number: a rain of one stone draws three times, and its cell tells two of them by 16. */
    private static void drawsModulo() {
        CHECK.sentence("4: to make a number x into 75 x and 74, together, modulo 65537");
        int[][] rows = {
            {1, 149, 11249, 57305}, {872, 65474, 60886, 44471}, {873, 12, 974, 7587}, {65535, 65461, 59911, 36883},
            {65536, 65536, 65536, 65536}, {62375, 25072, 45438, 0}, {25072, 45438, 0, 74}, {45438, 0, 74, 5624},
        };
        for (int[] row : rows) {
            Craterclock c = new Craterclock();
            c.draw(row[0]);
            CHECK.due("not gone, from " + row[0], c.rain(1), 1);
            CHECK.due("x from " + row[0], c.about(0, 0), row[1] % 16);
            CHECK.due("y from " + row[0], c.about(0, 1), row[2] % 16);
            CHECK.due("three times from " + row[0], c.draw(1), row[3]);
        }
        Craterclock zero = new Craterclock();
        zero.draw(62375);
        zero.rain(1);
        zero.rain(1);
        CHECK.due("three times from 0", zero.draw(1), (75 * 5624 + 74) % 65537);
        CHECK.due("x from 0", zero.about(1, 0), 74 % 16);
        CHECK.due("y from 0", zero.about(1, 1), 5624 % 16);
    }

    // ---- promise 5

    private static void rainSizes() {
        CHECK.sentence("5: the size: 1, if the remainder by 64 is below 40, 2 below 52, 3 below 58, 4 below 61, 5 below 63, otherwise 6");
        int[][] rows = {
            {22, 0, 1}, {20, 39, 1}, {43, 40, 2}, {26, 51, 2}, {49, 52, 3}, {52, 57, 3}, {75, 58, 4}, {42, 60, 4},
            {9, 61, 5}, {32, 62, 5}, {55, 63, 6},
        };
        for (int[] row : rows) {
            Craterclock c = new Craterclock();
            c.draw(row[0]);
            c.rain(1);
            CHECK.due("radius of " + row[1], c.about(0, 2), row[2]);
            CHECK.due("depth of " + row[1], c.about(0, 3), 4 * row[2]);
            CHECK.due("the remainder by 64 itself", c.draw(1) % 64, row[1]);
        }
    }

    private static void rainCells() {
        CHECK.sentence("5: x, the remainder of what is drawn by 16; y, likewise");
        int[][] rows = {{306, 0, 0}, {191, 15, 15}, {130, 0, 15}, {175, 15, 0}, {1, 5, 1}, {65536, 0, 0}};
        for (int[] row : rows) {
            Craterclock c = new Craterclock();
            c.draw(row[0]);
            c.rain(1);
            CHECK.due("x from " + row[0], c.about(0, 0), row[1]);
            CHECK.due("y from " + row[0], c.about(0, 1), row[2]);
        }
    }

    private static void rainOnGround() {
        CHECK.sentence("5: stones of a rain fall as others do, by the ground of their cell");
        Craterclock c = new Craterclock();
        c.ground(5, 1, ICE);
        c.ground(12, 3, SAND);
        CHECK.due("two", c.rain(2), 2);
        CHECK.due("ice's radius", c.about(0, 2), 2);
        CHECK.due("ice's depth", c.about(0, 3), 5);
        CHECK.due("sand's radius", c.about(1, 2), 1);
        CHECK.due("sand's depth", c.about(1, 3), 6);
    }

    private static void rainCounts() {
        CHECK.sentence("5: Returns how many craters are not gone then");
        Craterclock c = new Craterclock();
        c.stone(0, 15, 1);
        c.stone(0, 15, 1);
        CHECK.due("an older one, one gone, and a new one", c.rain(1), 2);
        c.draw(1);
        CHECK.due("one that wipes out its like", c.rain(1), 2);
        c.flood(0, 0, 15, 15, 3);
        c.draw(130);
        CHECK.due("depths of 1 and of 0", c.rain(1), 2);
        depth("the one of 1", c, 3, 1);
        Craterclock same = new Craterclock();
        same.draw(65536);
        CHECK.due("thirty on one cell", same.rain(30), 1);
        CHECK.due("thirty", same.craters(), 30);
        depth("the last", same, 29, 4);
        depth("the last but one", same, 28, 0);
    }

    private static void rainRange() {
        CHECK.sentence("5: many: 1 to 30");
        CHECK.due("1", fallen(new Craterclock(), 1), 1);
        CHECK.due("30", fallen(new Craterclock(), 30), 30);
        CHECK.refused("0", Check.ARGUMENT, PlainEdgeTests::drawn7, c -> c.rain(0));
        CHECK.refused("31", Check.ARGUMENT, PlainEdgeTests::drawn7, c -> c.rain(31));
    }

    private static int fallen(Craterclock c, int many) {
        c.rain(many);
        return c.craters();
    }

    private static void rainNotAbove200() {
        CHECK.sentence("5: IllegalStateException if there would be more than 200 craters");
        CHECK.due("170 and 30", fallen(stones(170), 30), 200);
        CHECK.due("199 and 1", fallen(stones(199), 1), 200);
        CHECK.refused("171 and 30", Check.STATE, () -> stones(171), c -> c.rain(30));
        CHECK.refused("199 and 2", Check.STATE, () -> stones(199), c -> c.rain(2));
        CHECK.refused("200 and 1", Check.STATE, () -> stones(200), c -> c.rain(1));
        CHECK.refused("200 and 31", Check.ARGUMENT, () -> stones(200), c -> c.rain(31));
        CHECK.refused("200 and 0", Check.ARGUMENT, () -> stones(200), c -> c.rain(0));
    }

    // ---- promise 6

    private static void floodsThick() {
        CHECK.sentence("6: as thick as told, 1 to 40 .. makes the depth less by that");
        for (int thick = 1; thick <= 40; thick++) {
            Craterclock c = with(0, 0, ICE, 6);
            CHECK.due("30 less " + thick, c.flood(0, 0, 0, 0, thick), thick >= 30 ? 1 : 0);
            depth("30 less " + thick, c, 0, Math.max(0, 30 - thick));
        }
        CHECK.refused("0", Check.ARGUMENT, () -> with(0, 0, ICE, 6), c -> c.flood(0, 0, 0, 0, 0));
        CHECK.refused("41", Check.ARGUMENT, () -> with(0, 0, ICE, 6), c -> c.flood(0, 0, 0, 0, 41));
    }

    private static void floodsFields() {
        CHECK.sentence("6: over a field of cells .. each crater on one of these");
        for (int n = 0; n < 256; n++) {
            int x = n % 16;
            int y = n / 16;
            Craterclock c = with(x, y, ICE, 6);
            c.flood(4, 5, 9, 11, 1);
            boolean on = x >= 4 && x <= 9 && y >= 5 && y <= 11;
            depth("on " + x + ", " + y, c, 0, on ? 29 : 30);
            c.flood(x, y, x, y, 1);
            depth("on its cell alone", c, 0, on ? 28 : 29);
            c.flood(0, 0, 15, 15, 1);
            depth("on all cells", c, 0, on ? 27 : 28);
        }
    }

    private static void floodsCellsNotRadii() {
        CHECK.sentence("6: each crater on one of these - by its own cell, not by where it reaches");
        Craterclock c = with(8, 8, ICE, 6);
        c.flood(0, 0, 7, 15, 40);
        c.flood(9, 0, 15, 15, 40);
        c.flood(0, 0, 15, 7, 40);
        c.flood(0, 9, 15, 15, 40);
        depth("round about", c, 0, 30);
    }

    private static void floodsReturn() {
        CHECK.sentence("6: Returns how many craters are gone by it");
        Craterclock c = new Craterclock();
        c.stone(0, 0, 1);
        c.stone(15, 0, 1);
        c.stone(0, 15, 2);
        c.stone(15, 15, 3);
        CHECK.due("less 3", c.flood(0, 0, 15, 15, 3), 0);
        depth("1 is left", c, 0, 1);
        CHECK.due("to 0, of one field", c.flood(0, 0, 0, 15, 1), 1);
        CHECK.due("below 0, not those gone before", c.flood(0, 0, 15, 15, 4), 2);
        CHECK.due("to exactly 0", c.flood(0, 0, 15, 15, 5), 1);
        CHECK.due("none is left", c.flood(0, 0, 15, 15, 40), 0);
        c.stone(0, 0, 1);
        depth("a later one is not less", c, 4, 4);
    }

    private static void floodsBack() {
        CHECK.sentence("6: a field goes to less than where it begins; a field goes from a cell to one that is not there");
        Check.Made made = () -> with(5, 5, ROCK, 2);
        CHECK.due("to where it begins", made.clock().flood(5, 5, 5, 5, 8), 1);
        CHECK.refused("x back by 1", Check.ARGUMENT, made, c -> c.flood(6, 5, 5, 5, 8));
        CHECK.refused("y back by 1", Check.ARGUMENT, made, c -> c.flood(5, 6, 5, 5, 8));
        CHECK.refused("x back, y on", Check.ARGUMENT, made, c -> c.flood(6, 0, 5, 15, 8));
        CHECK.refused("y back, x on", Check.ARGUMENT, made, c -> c.flood(0, 6, 15, 5, 8));
        CHECK.refused("to x 16", Check.INDEX, made, c -> c.flood(0, 0, 16, 15, 8));
        CHECK.refused("to y 16", Check.INDEX, made, c -> c.flood(0, 0, 15, 16, 8));
        CHECK.refused("to x -1, which is also back", Check.INDEX, made, c -> c.flood(0, 0, -1, 15, 8));
        CHECK.refused("to y -1, which is also back", Check.INDEX, made, c -> c.flood(0, 0, 15, -1, 8));
        CHECK.refused("from x -1", Check.INDEX, made, c -> c.flood(-1, 0, 15, 15, 8));
        CHECK.refused("from y 16, back and too thick", Check.INDEX, made, c -> c.flood(0, 16, 15, 15, 41));
    }

    private static void atMost100() {
        CHECK.sentence("6, 7: IllegalStateException if 100 floods and softenings were told");
        for (int floods = 0; floods <= 100; floods += 50) {
            int of = floods;
            Check.Made all = () -> lessened(of, 100 - of);
            CHECK.refused("a flood after " + of + " of 100", Check.STATE, all, c -> c.flood(0, 0, 15, 15, 1));
            CHECK.refused("a softening after " + of + " of 100", Check.STATE, all, c -> c.soften(40));
            CHECK.refused("a wrong flood", Check.ARGUMENT, all, c -> c.flood(0, 0, 15, 15, 41));
            CHECK.refused("a flood back", Check.ARGUMENT, all, c -> c.flood(1, 0, 0, 15, 1));
            CHECK.refused("a flood of no field", Check.INDEX, all, c -> c.flood(0, 0, 16, 15, 1));
            CHECK.refused("a wrong softening", Check.ARGUMENT, all, c -> c.soften(41));
            CHECK.due("stones still fall", all.clock().stone(0, 0, 6), 1);
        }
        Craterclock flood = lessened(60, 39);
        CHECK.due("the 100th, a flood", flood.flood(0, 0, 0, 0, 4), 1);
        Craterclock softening = lessened(39, 60);
        CHECK.due("the 100th, a softening", softening.soften(8), 1);
        depth("by the 100th", softening, 0, 0);
    }

    private static void refusedDoNotCount() {
        CHECK.sentence("6, 7: 100 were told - those that threw were not");
        Craterclock c = lessened(49, 50);
        CHECK.fails("thick", Check.ARGUMENT, c, of -> of.flood(0, 0, 0, 0, 0));
        CHECK.fails("back", Check.ARGUMENT, c, of -> of.flood(1, 0, 0, 0, 1));
        CHECK.fails("cell", Check.INDEX, c, of -> of.flood(0, 0, 0, 16, 1));
        CHECK.fails("steps", Check.ARGUMENT, c, of -> of.soften(0));
        CHECK.due("the 100th", c.flood(15, 15, 15, 15, 1), 0);
        CHECK.fails("the 101st", Check.STATE, c, of -> of.soften(1));
    }

    /** A crater of depth 4 on the first cell, and floods and softenings that leave it as it is. */
    private static Craterclock lessened(int floods, int softenings) {
        Craterclock c = new Craterclock();
        for (int i = 0; i < floods; i++) {
            c.flood(1, 0, 15, 15, 40);
        }
        for (int i = 0; i < softenings; i++) {
            c.soften(40);
        }
        c.stone(0, 0, 1);
        return c;
    }

    // ---- promise 7

    private static void softensByGround() {
        CHECK.sentence("7: on SAND by the steps, on ROCK by half of them, rounded down, on ICE by twice as much");
        for (int steps = 1; steps <= 40; steps++) {
            int[] by = {steps / 2, steps, steps + steps};
            for (int ground = ROCK; ground <= ICE; ground++) {
                Craterclock c = with(15, 0, ICE, 6);
                c.ground(15, 0, ground);
                CHECK.due(steps + " on " + ground, c.soften(steps), by[ground] >= 30 ? 1 : 0);
                depth(steps + " on " + ground, c, 0, Math.max(0, 30 - by[ground]));
            }
        }
    }

    private static void softensRockByHalf() {
        CHECK.sentence("7: on ROCK by half of them, rounded down");
        int[][] rows = {{1, 24}, {2, 23}, {3, 23}, {4, 22}, {39, 5}, {40, 4}};
        for (int[] row : rows) {
            Craterclock c = with(0, 0, ROCK, 6);
            CHECK.due("gone", c.soften(row[0]), 0);
            depth("after " + row[0], c, 0, row[1]);
        }
        Craterclock twice = with(0, 0, ROCK, 6);
        twice.soften(1);
        twice.soften(1);
        depth("by half of 1, two times", twice, 0, 24);
    }

    private static void softensAsTheCellIsNow() {
        CHECK.sentence("7: on SAND, as its cell is now");
        Craterclock c = with(7, 7, ICE, 6);
        c.ground(7, 7, SAND);
        c.soften(3);
        depth("sand now", c, 0, 27);
        c.ground(7, 7, ROCK);
        depth("a ground alone makes nothing less", c, 0, 27);
        c.soften(3);
        depth("rock now", c, 0, 26);
        c.ground(7, 7, ICE);
        c.soften(3);
        depth("ice now", c, 0, 20);
        c.ground(6, 7, SAND);
        c.ground(7, 6, SAND);
        c.soften(1);
        depth("not as its neighbours are", c, 0, 18);
    }

    private static void softensReturn() {
        CHECK.sentence("7: Returns how many craters are gone by it");
        Craterclock c = new Craterclock();
        c.ground(0, 0, SAND);
        c.ground(15, 0, ICE);
        c.stone(0, 0, 1);
        c.stone(15, 0, 1);
        c.stone(0, 15, 1);
        CHECK.due("to 1, 1 and 3", c.soften(2), 0);
        CHECK.due("to 0, below 0 and 3", c.soften(1), 2);
        CHECK.due("those gone before are not", c.soften(5), 0);
        depth("the last", c, 2, 1);
        CHECK.due("to exactly 0", c.soften(3), 1);
        CHECK.due("none is left", c.soften(40), 0);
        for (int crater = 0; crater < 3; crater++) {
            depth("of 0", c, crater, 0);
        }
    }

    private static void softensInRange() {
        CHECK.sentence("7: steps: 1 to 40");
        CHECK.refused("0", Check.ARGUMENT, () -> with(0, 0, ICE, 6), c -> c.soften(0));
        CHECK.refused("41", Check.ARGUMENT, () -> with(0, 0, ICE, 6), c -> c.soften(41));
        CHECK.refused("-1", Check.ARGUMENT, () -> with(0, 0, ICE, 6), c -> c.soften(-1));
    }

    private static void newObject() {
        beginsWithRock();
        beginsWithoutCraters();
        beginsWithoutEyesAndAnchors();
        sharesNothing();
        constants();
        callsUpTo512();
    }

    private static void stone() {
        sizes();
        atLeastOneOnSand();
        notGreater();
        radiusNotSizeCounts();
        notFartherThanTheNewRadius();
        notFartherThanBoth();
        eachAtEachDistance();
        lessByTheSize();
        goneAtZero();
        eachOlderByNumbers();
        inEitherWay();
        atMost200();
    }

    private static void rain() {
        rainSizes();
        rainCells();
        rainOnGround();
        rainCounts();
        rainRange();
        rainNotAbove200();
    }

    private static void flood() {
        floodsThick();
        floodsFields();
        floodsCellsNotRadii();
        floodsReturn();
        floodsBack();
        atMost100();
        refusedDoNotCount();
    }

    public static void main(String[] args) {
        newObject();
        tellsOfEachCellAlone();
        tellsAnyAfterAny();
        cratersKeepTheirSize();
        stone();
        draws();
        drawsModulo();
        rain();
        flood();
        softensByGround();
        softensRockByHalf();
        softensAsTheCellIsNow();
        softensReturn();
        softensInRange();
        CHECK.end();
    }
}
