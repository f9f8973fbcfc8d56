/** Promises 13 to 17: each sentence of the document that names a boundary case, at its very edge. */
public final class QuestionEdgeTests {
    private static final int ROCK = 0, SAND = 1, ICE = 2, NONE = -1;
    private static final Check CHECK = new Check();

    private static Craterclock with(int x, int y, int ground, int size) {
        Craterclock c = new Craterclock();
        c.ground(x, y, ground);
        c.stone(x, y, size);
        return c;
    }

    private static void anew(String told, Craterclock c, int crater, int want) {
        CHECK.due("depth anew " + told, c.depthAnew(crater), want);
        CHECK.due("depth " + told, c.about(crater, 3), want);
    }

    private static void tops(String told, Craterclock c, int x, int y, int want) {
        CHECK.due("top " + told, c.top(x, y), want);
        CHECK.due("top anew " + told, c.topAnew(x, y), want);
    }

    private static Craterclock twoHundred() {
        Craterclock c = new Craterclock();
        for (int i = 0; i < 6; i++) {
            c.rain(30);
        }
        c.rain(19);
        c.ground(2, 13, SAND);
        c.stone(2, 13, 4);
        return c;
    }

    // ---- promise 13

    private static void cratersGoneWithThem() {
        CHECK.sentence("13: Returns how many craters there are, those that are gone with them");
        Craterclock c = new Craterclock();
        CHECK.due("none", c.craters(), 0);
        c.stone(8, 8, 1);
        CHECK.due("one", c.craters(), 1);
        c.stone(8, 8, 1);
        CHECK.due("one wiped out", c.craters(), 2);
        c.flood(8, 8, 8, 8, 40);
        CHECK.due("one flooded", c.craters(), 2);
        c.stone(8, 8, 1);
        c.soften(40);
        CHECK.due("one softened", c.craters(), 3);
        c.rain(30);
        CHECK.due("30 more", c.craters(), 33);
        CHECK.due("200", twoHundred().craters(), 200);
    }

    private static void cratersThatWereRefused() {
        CHECK.sentence("13: how many craters there are - without those whose call threw");
        Craterclock c = with(8, 8, ROCK, 1);
        CHECK.fails("size", Check.ARGUMENT, c, of -> of.stone(8, 8, 7));
        CHECK.fails("cell", Check.INDEX, c, of -> of.stone(8, 16, 1));
        CHECK.fails("rain", Check.ARGUMENT, c, of -> of.rain(31));
        CHECK.due("one", c.craters(), 1);
        Craterclock full = twoHundred();
        CHECK.fails("the 201st", Check.STATE, full, of -> of.stone(8, 8, 1));
        CHECK.fails("a rain", Check.STATE, full, of -> of.rain(1));
        CHECK.due("200", full.craters(), 200);
    }

    // ---- promise 14

    private static void aboutEach() {
        CHECK.sentence("14: what: 0 its x, 1 its y, 2 its radius, 3 its depth, 0 if it is gone");
        int[][] cells = {{0, 15}, {15, 0}, {0, 0}, {15, 15}, {9, 4}};
        for (int[] cell : cells) {
            Craterclock c = with(cell[0], cell[1], ICE, 6);
            CHECK.due("x", c.about(0, 0), cell[0]);
            CHECK.due("y", c.about(0, 1), cell[1]);
            CHECK.due("radius", c.about(0, 2), 7);
            CHECK.due("depth", c.about(0, 3), 30);
            c.flood(0, 0, 15, 15, 29);
            CHECK.due("depth of 1", c.about(0, 3), 1);
            c.flood(0, 0, 15, 15, 40);
            CHECK.due("depth when gone", c.about(0, 3), 0);
            CHECK.due("x when gone", c.about(0, 0), cell[0]);
            CHECK.due("y when gone", c.about(0, 1), cell[1]);
            CHECK.due("radius when gone", c.about(0, 2), 7);
        }
    }

    private static void aboutWhich() {
        CHECK.sentence("14: IndexOutOfBoundsException as told; IllegalArgumentException if what is out of range");
        Check.Made one = () -> with(8, 8, ROCK, 1);
        CHECK.refused("crater 0 of none", Check.INDEX, Craterclock::new, c -> c.about(0, 0));
        CHECK.refused("crater 0 of none, what 4", Check.INDEX, Craterclock::new, c -> c.about(0, 4));
        CHECK.refused("crater 1 of one", Check.INDEX, one, c -> c.about(1, 3));
        CHECK.refused("crater -1", Check.INDEX, one, c -> c.about(-1, 3));
        CHECK.refused("crater -1, what -1", Check.INDEX, one, c -> c.about(-1, -1));
        CHECK.refused("what 4", Check.ARGUMENT, one, c -> c.about(0, 4));
        CHECK.refused("what -1", Check.ARGUMENT, one, c -> c.about(0, -1));
        Craterclock full = twoHundred();
        CHECK.due("crater 199", full.about(199, 0), 2);
        CHECK.due("crater 0", full.about(0, 0), 5);
        CHECK.fails("crater 200", Check.INDEX, full, c -> c.about(200, 0));
        CHECK.fails("crater 200, what 4", Check.INDEX, full, c -> c.about(200, 4));
        CHECK.fails("crater 199, what 4", Check.ARGUMENT, full, c -> c.about(199, 4));
    }

    // ---- promise 15

    private static void anewWhich() {
        CHECK.sentence("15: IndexOutOfBoundsException as told: there is no such crater");
        Check.Made one = () -> with(8, 8, ROCK, 1);
        CHECK.refused("crater 0 of none", Check.INDEX, Craterclock::new, c -> c.depthAnew(0));
        CHECK.refused("crater 1 of one", Check.INDEX, one, c -> c.depthAnew(1));
        CHECK.refused("crater -1", Check.INDEX, one, c -> c.depthAnew(-1));
        Craterclock full = twoHundred();
        CHECK.due("crater 199", full.depthAnew(199), 12);
        CHECK.fails("crater 200", Check.INDEX, full, c -> c.depthAnew(200));
    }

    private static void anewFromWhatCameAfter() {
        CHECK.sentence("15: found from all that fell, flooded and softened - of what came after the crater alone");
        Craterclock c = new Craterclock();
        c.stone(8, 8, 6);
        c.flood(0, 0, 15, 15, 40);
        c.soften(40);
        c.stone(8, 8, 6);
        anew("of the first", c, 0, 0);
        anew("of the second", c, 1, 24);
        c.flood(8, 8, 8, 8, 1);
        c.stone(8, 8, 2);
        anew("of the second", c, 1, 21);
        anew("of the third", c, 2, 8);
        c.flood(8, 8, 8, 8, 1);
        c.soften(2);
        anew("of the second", c, 1, 19);
        anew("of the third", c, 2, 6);
    }

    private static void anewByTheGroundOfThen() {
        CHECK.sentence("15: softened once more - by the ground as it was at each softening");
        for (int first = ROCK; first <= ICE; first++) {
            for (int then = ROCK; then <= ICE; then++) {
                for (int last = ROCK; last <= ICE; last++) {
                    int[] deep = {24, 18, 30};
                    int[] by = {1, 3, 6};
                    Craterclock c = with(15, 7, first, 6);
                    c.ground(15, 7, then);
                    c.soften(3);
                    c.ground(15, 7, last);
                    anew("of " + first + " on " + then, c, 0, deep[first] - by[then]);
                    c.soften(3);
                    anew("and on " + last, c, 0, deep[first] - by[then] - by[last]);
                    c.ground(15, 7, ROCK);
                    anew("with another ground since", c, 0, deep[first] - by[then] - by[last]);
                }
            }
        }
    }

    private static void anewAtZero() {
        CHECK.sentence("15: it is 0 then - at 0, below it and for good");
        Craterclock one = with(8, 8, ICE, 1);
        one.flood(8, 8, 8, 8, 4);
        anew("1 is left", one, 0, 1);
        one.flood(8, 8, 8, 8, 1);
        anew("to exactly 0", one, 0, 0);
        one.flood(8, 8, 8, 8, 1);
        anew("less once more", one, 0, 0);
        Craterclock below = with(8, 8, ICE, 1);
        below.soften(3);
        anew("below 0", below, 0, 0);
        Craterclock blanketed = with(8, 8, ICE, 1);
        for (int i = 0; i < 4; i++) {
            blanketed.stone(8, 10, 1);
        }
        anew("four blankets", blanketed, 0, 1);
        blanketed.stone(8, 10, 1);
        anew("five blankets", blanketed, 0, 0);
        Craterclock wiped = with(8, 8, ROCK, 6);
        wiped.stone(8, 14, 6);
        anew("wiped out at its radius", wiped, 0, 0);
        anew("the one that wiped it out", wiped, 1, 24);
    }

    private static void anewAtEdges() {
        CHECK.sentence("15: found from all that fell - at the edges of the radii");
        Craterclock c = with(8, 8, ROCK, 5);
        c.stone(13, 9, 5);
        anew("26 of 25: blanketed", c, 0, 15);
        c.stone(13, 13, 2);
        anew("50 of 49: not blanketed", c, 0, 15);
        c.stone(8, 15, 2);
        anew("49 of 49: blanketed", c, 0, 13);
        c.stone(5, 4, 4);
        anew("a lesser one: blanketed", c, 0, 9);
        c.stone(5, 4, 5);
        anew("25 of 25: wiped out", c, 0, 0);
        anew("its like on its cell: wiped out", c, 4, 0);
    }

    private static void anewAtMost() {
        CHECK.sentence("15: from all - of 200 craters and 100 floods and softenings the first and the last");
        Craterclock c = new Craterclock();
        c.ground(0, 0, ICE);
        c.stone(0, 0, 6);
        c.flood(0, 0, 0, 0, 1);
        for (int i = 0; i < 49; i++) {
            c.soften(1);
            c.flood(15, 15, 15, 15, 40);
            c.ground(0, 0, ROCK);
        }
        anew("after 99", c, 0, 30 - 1 - 2);
        c.flood(0, 0, 0, 0, 3);
        anew("after 100", c, 0, 24);
        c.stone(1, 1, 5);
        for (int i = 0; i < 197; i++) {
            c.stone(15, 15, 1);
        }
        anew("after 199", c, 0, 19);
        c.stone(1, 1, 4);
        anew("after 200", c, 0, 15);
        anew("of the second", c, 1, 16);
        anew("of the last", c, 199, 16);
    }

    // ---- promises 16 and 17

    private static void topWhere() {
        CHECK.sentence("16, 17: IndexOutOfBoundsException as told: there is no such cell");
        Check.Made one = () -> with(0, 0, ICE, 6);
        int[][] none = {{-1, 0}, {0, -1}, {16, 15}, {15, 16}, {-1, -1}, {16, 16}, {0, 16}, {16, 0}};
        for (int[] cell : none) {
            CHECK.refused("top of " + cell[0] + ", " + cell[1], Check.INDEX, one, c -> c.top(cell[0], cell[1]));
            CHECK.refused("top anew of " + cell[0] + ", " + cell[1], Check.INDEX, one, c -> c.topAnew(cell[0], cell[1]));
        }
        tops("of the first cell", one.clock(), 0, 0, 0);
        tops("of the last cell", one.clock(), 15, 15, NONE);
        tops("of the last cell", with(15, 15, ICE, 6), 15, 15, 0);
        tops("of the last cell in a row", with(15, 0, ICE, 6), 15, 0, 0);
        tops("of the last cell in a column", with(0, 15, ICE, 6), 0, 15, 0);
    }

    private static void topWithin() {
        CHECK.sentence("16, 17: and not farther away than its radius");
        for (int corner = 0; corner < 4; corner++) {
            for (int size = 1; size <= 6; size++) {
                for (int n = 0; n < 256; n++) {
                    int dx = n % 16;
                    int dy = n / 16;
                    int x = corner % 2 == 0 ? dx : 15 - dx;
                    int y = corner / 2 == 0 ? dy : 15 - dy;
                    Craterclock c = with(corner % 2 * 15, corner / 2 * 15, ICE, size);
                    int far = dx * dx + dy * dy;
                    tops("of " + size + ", " + dx + " and " + dy + " away", c, x, y, far <= (size + 1) * (size + 1) ? 0 : NONE);
                }
            }
        }
        tops("25 of 25", with(8, 8, ROCK, 5), 4, 5, 0);
        tops("26 of 25", with(8, 8, ROCK, 5), 7, 3, NONE);
        tops("1 of 1", with(8, 8, SAND, 1), 8, 7, 0);
        tops("2 of 1", with(8, 8, SAND, 1), 7, 7, NONE);
    }

    private static void topIsTheLatest() {
        CHECK.sentence("16, 17: the latest crater that is not gone");
        Craterclock c = new Craterclock();
        for (int size = 6; size >= 1; size--) {
            c.stone(8, 8, size);
        }
        tops("six on it", c, 8, 8, 5);
        tops("6 away", c, 8, 14, 0);
        tops("5 away", c, 8, 13, 1);
        tops("4 away", c, 8, 4, 2);
        tops("3 away", c, 5, 8, 3);
        tops("2 away", c, 10, 8, 4);
        tops("1 away", c, 8, 9, 5);
        tops("too far", c, 8, 1, NONE);
        c.stone(8, 8, 3);
        tops("the latest", c, 8, 8, 6);
        tops("three are gone", c, 8, 11, 6);
        tops("three are not", c, 8, 12, 2);
    }

    private static void topIsNotGone() {
        CHECK.sentence("16, 17: not gone; NONE without one");
        Craterclock c = new Craterclock();
        tops("nothing yet", c, 8, 8, NONE);
        c.stone(8, 8, 4);
        c.stone(8, 8, 2);
        tops("the latest", c, 8, 8, 1);
        c.flood(8, 8, 8, 8, 7);
        tops("of depth 1", c, 8, 8, 1);
        c.flood(8, 8, 8, 8, 1);
        tops("of depth 0: the one below it", c, 8, 8, 0);
        c.soften(11);
        tops("of depth 1", c, 8, 8, 0);
        c.soften(1);
        tops("half of 1 is 0", c, 8, 8, 0);
        c.soften(2);
        tops("none is left", c, 8, 8, NONE);
    }

    private static void topOfMany() {
        CHECK.sentence("16, 17: Returns the crater - of 200 the first and the last");
        Craterclock c = new Craterclock();
        c.stone(0, 0, 6);
        for (int i = 0; i < 198; i++) {
            c.stone(15, 15, 1);
        }
        tops("the first", c, 0, 0, 0);
        tops("the last but one", c, 15, 15, 198);
        c.stone(1, 0, 1);
        tops("the last", c, 0, 0, 199);
        tops("the first beside it", c, 3, 0, 0);
        tops("the first at its radius", c, 0, 6, 0);
        tops("none beside that", c, 1, 6, NONE);
    }

    private static void asksChangeNothing() {
        CHECK.sentence("13 to 17: questions change nothing");
        Check.Made made = () -> {
            Craterclock c = with(3, 3, SAND, 5);
            c.rain(12);
            c.soften(3);
            c.eye(7);
            c.anchor(5, 500);
            c.anchor(10, 90000);
            return c;
        };
        CHECK.same("after questions", () -> {
            Craterclock c = made.clock();
            for (int i = 0; i < 16; i++) {
                c.craters();
                c.about(i % 13, i % 4);
                c.depthAnew(i % 13);
                c.top(i, i);
                c.topAnew(i, 15 - i);
                c.count(0, 0, 0, i, i, 1);
                c.age(0, 0, 0, 15, 15);
                c.whyNot(0, 0, 0, i, i);
            }
            return c;
        }, Check.states(made));
    }

    public static void main(String[] args) {
        cratersGoneWithThem();
        cratersThatWereRefused();
        aboutEach();
        aboutWhich();
        anewWhich();
        anewFromWhatCameAfter();
        anewByTheGroundOfThen();
        anewAtZero();
        anewAtEdges();
        anewAtMost();
        topWhere();
        topWithin();
        topIsTheLatest();
        topIsNotGone();
        topOfMany();
        asksChangeNothing();
        CHECK.end();
    }
}
