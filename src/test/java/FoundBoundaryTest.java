/** Promises 16 to 20, what is found: each sentence that names a bound, an edge or a refusal has a test of its own. */
public final class FoundBoundaryTest extends Rig {
    private static final String TEN = repeat("section 9 9", ";", 10);
    // Times 2, 1, 12/5, 4/11, 3; basins {0} {1, 2} {3, 4}.
    private static final String HOUSE = "section 40 20;section 9 9;section 60 25;section 8 12;section 30 10;"
        + "joint 0 1;joint 1 2;joint 2 3;joint 3 4;joint 0 3;chill 3 1";

    public static void main(String[] args) throws Exception {
        runSentences(FoundBoundaryTest.class, 16, 20);
    }

    // ---- 16 order

    @Says(promise = 16, value = "The k-th SECTION (0 on) by ORDER")
    private static void order() {
        FeedCheck x = cast(HOUSE);
        int[] due = {3, 1, 0, 2, 4};
        for (int k = 0; k < due.length; k++) {
            due("order(" + k + ")", x.order(k), due[k]);
        }
        FeedCheck ten = cast(TEN);
        for (int k = 0; k < 10; k++) {
            due("of like ones, order(" + k + ")", ten.order(k), 9 - k);
        }
        ten.chill(0, 1);
        due("a chilled one is soonest", ten.order(0), 0);
    }

    @Says(promise = 16, value = "NONE beyond.")
    private static void orderBeyond() {
        due("no sections", new FeedCheck().order(0), NONE);
        due("one", cast("section 1 1").order(1), NONE);
        due("ten", cast(TEN).order(10), NONE);
        due("far", cast(TEN).order(Integer.MAX_VALUE), NONE);
        due("a bit's round further", cast(TEN).order(32), NONE);
    }

    @Says(promise = 16, value = "OUTSIDE: k below 0.")
    private static void orderOutside() {
        refused("order(-1)", x -> x.order(-1), OUTSIDE);
        refused("order(least)", x -> x.order(Integer.MIN_VALUE), OUTSIDE);
        due("no sections", new FeedCheck().order(-1), OUTSIDE);
    }

    // ---- 17 pass

    @Says(promise = 17, value = "The PASS of the BASINS of two SECTIONS (a SECTION)")
    private static void pass() {
        FeedCheck x = cast(HOUSE);
        due("of two tops", x.pass(0, 2), 1);
        due("the other way round", x.pass(2, 0), 1);
        due("of others than tops", x.pass(1, 3), 3);
        due("of a top and its pass", x.pass(0, 1), 1);
        FeedCheck first = cast("section 1 9;section 9 1;section 9 1;joint 0 1;joint 0 2");
        due("section 0 is the pass", first.pass(1, 2), 0);
    }

    @Says(promise = 17, value = "NONE: there is none")
    private static void passNone() {
        due("no joint", cast("section 1 1;section 1 1").pass(0, 1), NONE);
        due("basins that a third one parts", cast("section 4 1;section 1 1;section 3 1;section 1 1;section 4 1;"
            + "joint 0 1;joint 1 2;joint 2 3;joint 3 4;rule 6 5 0").pass(0, 4), NONE);
    }

    @Says(promise = 17, value = "they are of one BASIN.")
    private static void passOneBasin() {
        FeedCheck x = cast(HOUSE);
        due("a top and one of its basin", x.pass(1, 2), NONE);
        due("two of a basin, no top", cast("section 9 1;section 2 1;section 3 1;joint 0 1;joint 0 2;joint 1 2").pass(1, 2), NONE);
    }

    @Says(promise = 17, value = "UNKNOWN.")
    private static void passUnknown() {
        due("none yet", new FeedCheck().pass(0, 1), UNKNOWN);
        due("an eleventh", cast(TEN).pass(0, 10), UNKNOWN);
        refused("pass(0, 3)", x -> x.pass(0, 3), UNKNOWN);
        refused("pass(3, 0)", x -> x.pass(3, 0), UNKNOWN);
        refused("pass(0, -1)", x -> x.pass(0, -1), UNKNOWN);
        refused("pass(-1, 0)", x -> x.pass(-1, 0), UNKNOWN);
        refused("pass(2, 2)", x -> x.pass(2, 2), UNKNOWN);
        for (int far : FAR) {
            due("pass(" + far + ", 0)", busy().pass(far, 0), UNKNOWN);
            due("pass(0, " + far + ")", busy().pass(0, far), UNKNOWN);
        }
    }

    // ---- 18 need

    @Says(promise = 18, value = "NEED (k 1 .. 99)")
    private static void need() {
        FeedCheck x = cast(HOUSE);
        due("2 times 6 by 5, skin 1: 2.4", x.need(0, 1), 3);
        due("skin 5: 12 just", x.need(0, 5), 12);
        due("skin 99: 237.6", x.need(0, 99), 238);
        due("the least there is", cast("section 1 99;rule 1 99 0").need(0, 1), 1);
        due("999", cast("section 27 1;rule 1 1 0").need(0, 37), 999);
        due("a riser of that volume feeds", cast("section 40 20;riser 0 12 5").top(0, 3), 1);
        due("of one less does not", cast("section 40 20;riser 0 11 5").top(0, 3), 0);
    }

    @Says(promise = 18, value = "NONE.")
    private static void needNone() {
        due("1000", cast("section 25 1;rule 1 1 0").need(0, 40), NONE);
        due("999 and a bit", cast("section 28 1;rule 99 98 0").need(0, 36), NONE);
        due("the most", cast("section 99 1;rule 99 1 0").need(0, 99), NONE);
    }

    @Says(promise = 18, value = "UNKNOWN")
    private static void needUnknown() {
        due("none yet", new FeedCheck().need(0, 1), UNKNOWN);
        due("an eleventh", cast(TEN).need(10, 1), UNKNOWN);
        refused("need(3, 1)", x -> x.need(3, 1), UNKNOWN);
        refused("need(-1, 1)", x -> x.need(-1, 1), UNKNOWN);
        for (int far : FAR) {
            due("need(" + far + ", 0)", busy().need(far, 0), UNKNOWN);
        }
    }

    @Says(promise = 18, value = "OUTSIDE")
    private static void needOutside() {
        refused("need(0, 0)", x -> x.need(0, 0), OUTSIDE);
        refused("need(0, 100)", x -> x.need(0, 100), OUTSIDE);
        due("of one that is no top", busy().need(1, 100), OUTSIDE);
        for (int far : FAR) {
            due("need(0, " + far + ")", busy().need(0, far), OUTSIDE);
        }
    }

    @Says(promise = 18, value = "NOT: it is no TOP.")
    private static void needNot() {
        refused("need(1, 1)", x -> x.need(1, 1), NOT);
        refused("need(1, 99)", x -> x.need(1, 99), NOT);
        due("of like time, of the greater number", cast("section 9 9;section 9 9;joint 0 1").need(1, 1), NOT);
    }

    // ---- 19 best

    @Says(promise = 19, value = "CHILL of n (1 .. 9): the SECTION (what 0)")
    private static void best() {
        FeedCheck x = cast(HOUSE);
        due("1: 40 by 30 is a top yet, all leave 3", x.best(1, 0), 0);
        due("3: 40 by 50 is below 1", x.best(3, 0), 0);
        due("9", cast("section 9 9;section 60 10;section 80 10;joint 0 1;joint 0 2").best(9, 0), 1);
        // Tops 8 and 9 beside 7, and seven more apart; 99 by 91 stays above the 9 by 9 of 7, 60 by 100 does not.
        due("the tenth", cast(repeat("section 1 1", ";", 7) + ";section 9 9;section 99 1;section 60 10;joint 7 8;joint 7 9").best(9, 0), 9);
        due("one that has 9", cast("section 9 9;chill 0 9").best(1, 0), 0);
    }

    @Says(promise = 19, value = "TOPS then (1)")
    private static void bestTops() {
        FeedCheck x = cast(HOUSE);
        due("1", x.best(1, 1), 3);
        due("3", x.best(3, 1), 2);
        due("one section", cast("section 1 1").best(9, 1), 1);
        due("ten sections apart", cast(TEN).best(9, 1), 10);
        due("chills stay", x.section(0, 2), 0);
        due("tops stay", x.count(3), 21);
    }

    @Says(promise = 19, value = "NONE.")
    private static void bestNone() {
        due("the section", new FeedCheck().best(1, 0), NONE);
        due("the tops", new FeedCheck().best(9, 1), NONE);
    }

    @Says(promise = 19, value = "OUTSIDE.")
    private static void bestOutside() {
        refused("best(0, 0)", x -> x.best(0, 0), OUTSIDE);
        refused("best(10, 0)", x -> x.best(10, 0), OUTSIDE);
        refused("best(1, 2)", x -> x.best(1, 2), OUTSIDE);
        refused("best(1, -1)", x -> x.best(1, -1), OUTSIDE);
        due("ahead of NONE", new FeedCheck().best(0, 0), OUTSIDE);
        due("what, ahead of NONE", new FeedCheck().best(1, 2), OUTSIDE);
        for (int far : FAR) {
            due("best(" + far + ", 0)", busy().best(far, 0), OUTSIDE);
            due("best(1, " + far + ")", busy().best(1, far), OUTSIDE);
        }
    }

    // ---- 20 least

    @Says(promise = 20, value = "LEAST: the set (what 0)")
    private static void least() {
        due("no sections", new FeedCheck().least(0), 0);
        due("no risers", cast("section 1 1").least(0), 0);
        due("the last of six", cast("section 1 1;" + repeat("riser 0 1 1", ";", 5) + ";riser 0 9 1").least(0), 32);
        due("five of six", cast(repeat("section 1 1", ";", 5), "riser 0 9 1;riser 0 9 1;riser 1 9 1;riser 2 9 1;riser 3 9 1;riser 4 9 1").least(0), 61);
        due("all six", cast(repeat("section 1 1", ";", 6), "riser 0 9 1;riser 1 9 1;riser 2 9 1;riser 3 9 1;riser 4 9 1;riser 5 9 1").least(0), 63);
    }

    @Says(promise = 20, value = "how many (1).")
    private static void leastCount() {
        due("none", new FeedCheck().least(1), 0);
        due("one of six", cast("section 1 1;" + repeat("riser 0 9 1", ";", 6)).least(1), 1);
        due("all six", cast(repeat("section 1 1", ";", 6), "riser 0 9 1;riser 1 9 1;riser 2 9 1;riser 3 9 1;riser 4 9 1;riser 5 9 1").least(1), 6);
    }

    @Says(promise = 20, value = "OUTSIDE.")
    private static void leastOutside() {
        refused("least(2)", x -> x.least(2), OUTSIDE);
        refused("least(-1)", x -> x.least(-1), OUTSIDE);
        for (int far : FAR) {
            due("least(" + far + ")", busy().least(far), OUTSIDE);
        }
    }
}
