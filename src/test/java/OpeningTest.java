/** The document's opening, "What it is", phrase by phrase on one casting; answers worked out by hand. */
public final class OpeningTest extends Rig {
    // Times 2, 1, 12/5, 4/11, 3; basins {0} {1, 2} {3, 4}; the passes are 1 (between 0 and 2) and 3.
    private static final String HOUSE = "section 40 20;section 9 9;section 60 25;section 8 12;section 30 10;"
        + "joint 0 1;joint 1 2;joint 2 3;joint 3 4;joint 0 3;riser 2 50 15;riser 4 90 20;chill 3 1";

    public static void main(String[] args) throws Exception {
        runSentences(OpeningTest.class, -1, -1);
    }

    private static String order(FeedCheck x) {
        StringBuilder all = new StringBuilder();
        for (int k = 0; k < x.count(0); k++) {
            all.append(x.order(k));
        }
        return all.toString();
    }

    @Says(promise = -1, value = "Metal that freezes, and must be fed: a casting of sections, each with so much volume and so much skin, "
        + "that freezes the later the more volume it has by its skin")
    private static void freezing() {
        FeedCheck x = cast("section 40 20;section 50 20;section 40 19;section 80 40");
        due("more volume is later, more skin is sooner, of like ones the greater number is sooner", order(x), "3021");
    }

    @Says(promise = -1, value = "where it freezes last, all around being hard, a hole comes to be, "
        + "unless a riser stands there that freezes later yet and gives metal")
    private static void hole() {
        FeedCheck x = cast("section 9 9;section 20 10;section 9 9;joint 0 1;joint 1 2");
        due("what freezes last", x.order(2), 1);
        due("is a top", x.count(3), 2);
        due("with a hole", x.count(6), 0);
        x.put(1, 20, 10);
        due("a riser that freezes as late", x.count(6), 0);
        x.put(0, 24, 10);
        due("one that freezes later yet", x.count(6), 1);
    }

    @Says(promise = -1, value = "from each section one climbs by the steepest way to the top of its basin")
    private static void climbing() {
        FeedCheck x = cast("section 1 1;section 3 1;section 2 1;section 9 1;joint 0 1;joint 0 2;joint 2 3");
        due("the steep way, though the other one goes higher", x.section(0, 7), 1);
        due("in one step", x.section(0, 8), 1);
        due("2 climbs elsewhere", x.section(2, 7), 3);
    }

    @Says(promise = -1, value = "basins meet at passes, the lower ones drowned in the higher, if the pass between is high enough to feed through")
    private static void passes() {
        FeedCheck x = cast(HOUSE);
        due("between 0 and 2", x.pass(0, 2), 1);
        due("high enough: half", x.top(0, 1), 2);
        due("between 2 and 4", x.pass(2, 4), 3);
        due("not high enough", x.top(2, 1), NONE);
        due("with one hundredth more", cast(x, "rule 6 5 51").top(0, 1), NONE);
    }

    @Says(promise = -1, value = "chills of iron make a section freeze sooner")
    private static void chilling() {
        FeedCheck x = cast(HOUSE);
        due("before", order(x), "31024");
        x.chill(4, 2);
        due("4 with two", order(x), "34102");
    }

    @Says(promise = -1, value = "sections, joints, risers, chills told in a small text, read to its first fault")
    private static void telling() {
        FeedCheck x = cast(HOUSE);
        due("sections", x.count(0), 5);
        due("joints", x.count(1), 5);
        due("risers and chills", fit(x), "chills 0 0 0 1 0 risers 2/50/15 4/90/20");
        dueText("section 1 1;section 0 1;section 1 0", 20);
    }

    @Says(promise = -1, value = "risers put on, taken off, chills moved, undone")
    private static void changing() {
        FeedCheck x = cast(HOUSE);
        due("put", x.put(0, 7, 8), 2);
        due("taken", x.take(1), 2);
        due("moved", x.move(3, 1, 1), 1);
        due("then", fit(x), "chills 0 1 0 0 0 risers 2/50/15 0/7/8");
        due("undone", x.undo(), 2);
        due("undone", x.undo(), 1);
        due("undone", x.undo(), 0);
        due("as before", fit(x), "chills 0 0 0 1 0 risers 2/50/15 4/90/20");
    }

    @Says(promise = -1, value = "in what order all freezes, where the hot spots are, which basin has what, which are drowned")
    private static void finding() {
        FeedCheck x = cast(HOUSE);
        due("order", order(x), "31024");
        due("tops 0, 2, 4", x.count(3), 21);
        due("basin of 0", x.top(0, 0), 1);
        due("basin of 2", x.top(2, 0), 6);
        due("basin of 4", x.top(4, 0), 24);
        due("drowned", x.count(4), 1);
    }

    @Says(promise = -1, value = "which are fed, by which riser, which starves if one is not there, how much volume one must have, "
        + "where a chill would leave the fewest tops")
    private static void feeding() {
        FeedCheck x = cast(HOUSE);
        due("fed", x.count(5), 21);
        due("0 through the pass", x.top(0, 4), 0);
        due("2", x.top(2, 4), 0);
        due("4", x.top(4, 4), 1);
        due("starved without 0", x.riser(0, 3), 5);
        due("starved without 1", x.riser(1, 3), 16);
        due("volume for 4", x.need(4, 10), 36);
        due("a little chill is of no use", x.best(1, 1), 3);
        due("much chill on 0", x.best(9, 0), 0);
        due("leaves two", x.best(9, 1), 2);
    }

    @Says(promise = -1, value = "bins of things of one kind, sorted, added, missing")
    private static void bins() {
        FeedCheck x = new FeedCheck();
        due("missing", x.sum(0), NULL);
        x.bin(0, 0);
        x.bin(1, 0);
        due("of one kind", x.addPair(0, 1, 1), KIND);
        x.addWhole(0, 4);
        x.addWhole(0, -4);
        x.addWhole(1, 1);
        due("sorted", x.sort(0), 2);
        due("added", x.pour(0, 1), 3);
        due("behind, in order", things(x, 1), "20004 19996 20001 -13 1");
    }

    @Says(promise = -1, value = "a casting kept, all undone")
    private static void keeping() {
        FeedCheck x = cast(HOUSE);
        x.put(0, 7, 8);
        due("kept", x.keep(1), 3);
        x.take(0);
        x.chill(3, 9);
        due("back", x.back(1), 3);
        due("as kept", fit(x), "chills 0 0 0 1 0 risers 2/50/15 4/90/20 0/7/8");
        due("nothing to undo", x.undo(), NOT);
    }
}
