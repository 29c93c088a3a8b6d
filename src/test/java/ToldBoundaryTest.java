/** Promises 1 to 8, what is told: each sentence that names a bound, an edge or a refusal has a test of its own. */
public final class ToldBoundaryTest extends Rig {
    private static final String TEN = repeat("section 9 9", ";", 10);
    // Times 2, 1, 12/5, 4/11, 3; basins {0} {1, 2} {3, 4}; 0 drowned in 2 just so, 2 and 4 free.
    private static final String HOUSE = "section 40 20;section 9 9;section 60 25;section 8 12;section 30 10;"
        + "joint 0 1;joint 1 2;joint 2 3;joint 3 4;joint 0 3;riser 2 50 15;riser 4 90 20;chill 3 1";

    public static void main(String[] args) throws Exception {
        runSentences(ToldBoundaryTest.class, 1, 8);
    }

    private static FeedCheck fullText() {
        return type(new FeedCheck(), repeat("casting;", "", 24) + "       a");
    }

    // ---- 1 a new object

    @Says(promise = 1, value = "No sections.")
    private static void noSections() {
        FeedCheck x = new FeedCheck();
        int[] first = {0, 0, 0, 0, 0, 0, 1, 6, 5, 50, 0, 0, 0};
        for (int what = 0; what < first.length; what++) {
            due("count(" + what + ")", x.count(what), first[what]);
        }
        due("section 0", x.section(0, 0), UNKNOWN);
        due("order", x.order(0), NONE);
        due("another object's casting is not its own", cast("section 1 1").count(0) * 10 + new FeedCheck().count(0), 10);
    }

    // ---- 2 write

    @Says(promise = 2, value = "A letter (its number, 0 .. 255) more of THE TEXT: how many it has.")
    private static void write() {
        FeedCheck x = new FeedCheck();
        due("0", x.write(0), 1);
        due("255", x.write(255), 2);
        for (int i = 3; i <= 200; i++) {
            due("letter " + i, x.write('a'), i);
        }
        due("how many it has", x.count(12), 200);
        due("0 is a letter", x.fault(), 0);
    }

    @Says(promise = 2, value = "OUTSIDE")
    private static void writeOutside() {
        refused("write(-1)", x -> x.write(-1), OUTSIDE);
        refused("write(256)", x -> x.write(256), OUTSIDE);
        for (int far : FAR) {
            due("write(" + far + ")", new FeedCheck().write(far), OUTSIDE);
        }
        due("a whole round further, a blank", new FeedCheck().write(256 + 32), OUTSIDE);
        due("ahead of FULL", fullText().write(256), OUTSIDE);
    }

    @Says(promise = 2, value = "FULL")
    private static void writeFull() {
        refused(ToldBoundaryTest::fullText, "the 201st", x -> x.write('a'), FULL);
        FeedCheck x = fullText();
        x.erase();
        due("behind erase()", x.write('a'), 1);
    }

    // ---- 3 erase

    @Says(promise = 3, value = "THE TEXT is empty: how many letters it had.")
    private static void erase() {
        FeedCheck x = new FeedCheck();
        due("none", x.erase(), 0);
        due("200", fullText().erase(), 200);
        x.write('c');
        due("one", x.erase(), 1);
        due("none again", x.erase(), 0);
        due("it is empty", x.count(12), 0);
        due("the fault of an empty one", x.fault(), 0);
        FeedCheck y = busy();
        y.erase();
        type(y, "section 3 4;rule 7 8 9");
        due("nothing else changes", picture(y), picture(busy()));
    }

    // ---- 4 fault

    @Says(promise = 4, value = "The place of the FAULT (the letter with which the TOKEN begins")
    private static void faultPlace() {
        dueText("x", 0);
        dueText("   castingx", 3);
        dueText("section 12345 1", 8);
        dueText("section 1   100", 12);
        dueText("casting   !", 10);
        dueText(repeat(" ", "", 199) + "!", 199);
    }

    @Says(promise = 4, value = "or the length)")
    private static void faultLength() {
        dueText("", 0);
        dueText(" ", 1);
        dueText("section 1 ", 10);
        dueText("casting;", 8);
        dueText(repeat(" ", "", 192) + "casting;", 200);
        dueText(repeat(" ", "", 193) + "section", 200);
    }

    @Says(promise = 4, value = "NONE.")
    private static void faultNone() {
        dueText("casting", NONE);
        dueText(repeat(" ", "", 193) + "casting", NONE);
        FeedCheck x = busy();
        due("a text that waits", x.fault(), NONE);
        due("once more", x.fault(), NONE);
        due("nothing is done by fault()", picture(x), picture(busy()));
    }

    // ---- 5 casting

    @Says(promise = 5, value = "THE TEXT's CLAUSES are done, and it is empty then: how many there were.")
    private static void casting() {
        FeedCheck x = type(new FeedCheck(), "section 1 2");
        due("one", x.casting(), 1);
        due("it is done", x.section(0, 1), 2);
        due("it is empty", x.count(12), 0);
        due("and not done again", x.casting(), NOT);
        due("one section", x.count(0), 1);
        type(x, repeat("casting", ";", 24));
        due("24", x.casting(), 24);
        due("the next is counted anew", type(x, "casting;casting").casting(), 2);
    }

    @Says(promise = 5, value = "NOT: it has a FAULT.")
    private static void castingNot() {
        refused(FeedCheck::new, "no text", FeedCheck::casting, NOT);
        refused(() -> type(busy(), ";"), "a semicolon too many", FeedCheck::casting, NOT);
        refused(() -> type(busy(), ";casting;section 1 1;section 2 0"), "the last number is wrong", FeedCheck::casting, NOT);
        refused(() -> type(new FeedCheck(), repeat("casting", ";", 25)), "25 clauses", FeedCheck::casting, NOT);
    }

    // ---- 6 section

    @Says(promise = 6, value = "Of a SECTION: VOLUME (what 0)")
    private static void sectionVolume() {
        FeedCheck x = cast("section 1 5;section 99 5");
        due("1", x.section(0, 0), 1);
        due("99", x.section(1, 0), 99);
    }

    @Says(promise = 6, value = "SKIN (1)")
    private static void sectionSkin() {
        FeedCheck x = cast("section 5 1;section 5 99;chill 1 9");
        due("1", x.section(0, 1), 1);
        due("99, the chills aside", x.section(1, 1), 99);
    }

    @Says(promise = 6, value = "CHILLS (2)")
    private static void sectionChills() {
        FeedCheck x = cast("section 5 1;section 5 9;chill 1 9");
        due("none", x.section(0, 2), 0);
        due("9", x.section(1, 2), 9);
        x.move(1, 0, 9);
        due("as they are now", x.section(0, 2) * 10 + x.section(1, 2), 90);
    }

    @Says(promise = 6, value = "NEIGHBOURS (3, bits)")
    private static void sectionNeighbours() {
        due("none", cast("section 1 1").section(0, 3), 0);
        FeedCheck x = cast(TEN, "joint 0 1;joint 0 2;joint 3 0;joint 0 4;joint 0 5;joint 0 6;joint 7 0;joint 0 8;joint 9 0");
        due("all nine others", x.section(0, 3), 1022);
        due("the one", x.section(9, 3), 1);
    }

    @Says(promise = 6, value = "TIME in lowest terms above (4)")
    private static void sectionAbove() {
        FeedCheck x = cast("section 99 99;section 97 89;section 1 99;section 98 49;chill 1 9");
        int[] above = {1, 97, 1, 2};
        for (int s = 0; s < 4; s++) {
            due("above " + s, x.section(s, 4), above[s]);
        }
        x.chill(0, 9);
        due("99 by 189", x.section(0, 4), 11);
        due("2 by 98, halved", cast("section 2 98").section(0, 4), 1);
    }

    @Says(promise = 6, value = "below (5)")
    private static void sectionBelow() {
        FeedCheck x = cast("section 99 99;section 97 89;section 1 99;section 98 49;chill 1 9");
        int[] below = {1, 179, 99, 1};
        for (int s = 0; s < 4; s++) {
            due("below " + s, x.section(s, 5), below[s]);
        }
        x.chill(2, 9);
        due("1 by 189, the greatest", x.section(2, 5), 189);
        due("2 by 98, halved", cast("section 2 98").section(0, 5), 49);
    }

    @Says(promise = 6, value = "1 it is a TOP (6)")
    private static void sectionIsTop() {
        FeedCheck x = cast(HOUSE);
        int[] tops = {1, 0, 1, 0, 1};
        for (int s = 0; s < 5; s++) {
            due("top " + s, x.section(s, 6), tops[s]);
        }
        due("alone", cast("section 1 99").section(0, 6), 1);
    }

    @Says(promise = 6, value = "TOP of its BASIN (7)")
    private static void sectionTop() {
        FeedCheck x = cast(HOUSE);
        int[] tops = {0, 2, 2, 4, 4};
        for (int s = 0; s < 5; s++) {
            due("top of " + s, x.section(s, 7), tops[s]);
        }
        x.chill(2, 9);
        due("1 is on its own way now, and 2 below it", x.section(1, 7) * 10 + x.section(2, 7), 0);
    }

    @Says(promise = 6, value = "STEPS (8)")
    private static void sectionSteps() {
        FeedCheck x = cast(TEN, "joint 0 1;joint 1 2;joint 2 3;joint 3 4;joint 4 5;joint 5 6;joint 6 7;joint 7 8;joint 8 9");
        for (int s = 0; s < 10; s++) {
            due("steps of " + s, x.section(s, 8), s);
        }
        x.chill(4, 1);
        due("a top, with a lower one between", x.section(5, 8), 0);
    }

    @Says(promise = 6, value = "UNKNOWN")
    private static void sectionUnknown() {
        due("none yet", new FeedCheck().section(0, 0), UNKNOWN);
        FeedCheck ten = cast(TEN);
        due("an eleventh", ten.section(10, 0), UNKNOWN);
        due("the tenth", ten.section(9, 0), 9);
        refused("section(3, 0)", x -> x.section(3, 0), UNKNOWN);
        refused("section(-1, 0)", x -> x.section(-1, 0), UNKNOWN);
        for (int far : FAR) {
            due("section(" + far + ", " + far + ")", ten.section(far, far), UNKNOWN);
        }
        due("gone with casting", cast("section 1 1", "casting").section(0, 0), UNKNOWN);
    }

    @Says(promise = 6, value = "OUTSIDE")
    private static void sectionOutside() {
        refused("section(0, 9)", x -> x.section(0, 9), OUTSIDE);
        refused("section(0, -1)", x -> x.section(0, -1), OUTSIDE);
        for (int far : FAR) {
            due("section(0, " + far + ")", busy().section(0, far), OUTSIDE);
        }
    }

    // ---- 7 top

    @Says(promise = 7, value = "Of a TOP: its BASIN (what 0, bits)")
    private static void topBasin() {
        FeedCheck x = cast(HOUSE);
        due("itself alone", x.top(0, 0), 1);
        due("two", x.top(2, 0), 6);
        due("two others", x.top(4, 0), 24);
        FeedCheck ten = cast(TEN, "joint 0 1;joint 0 2;joint 0 3;joint 0 4;joint 0 5;joint 0 6;joint 0 7;joint 0 8;joint 0 9");
        due("all ten", ten.top(0, 0), 1023);
    }

    @Says(promise = 7, value = "the one in which it is DROWNED (1; NONE)")
    private static void topDrowned() {
        FeedCheck x = cast(HOUSE);
        due("0 in 2", x.top(0, 1), 2);
        due("2 in none", x.top(2, 1), NONE);
        due("4 in none", x.top(4, 1), NONE);
        due("drowned in section 0", cast("section 9 1;section 1 1;section 2 1;joint 0 1;joint 1 2").top(2, 1), 0);
    }

    @Says(promise = 7, value = "HEAD (2)")
    private static void topHead() {
        FeedCheck x = cast(HOUSE);
        due("of 0", x.top(0, 2), 2);
        due("of 2", x.top(2, 2), 2);
        due("of 4", x.top(4, 2), 4);
        due("alone", cast("section 1 1").top(0, 2), 0);
    }

    @Says(promise = 7, value = "1 it is FED (3)")
    private static void topFed() {
        FeedCheck x = cast(HOUSE);
        due("4 by 1", x.top(4, 3), 1);
        x.take(1);
        due("4 by none", x.top(4, 3), 0);
        due("0 by that of 2", x.top(0, 3), 1);
    }

    @Says(promise = 7, value = "FEEDER (4; NONE)")
    private static void topFeeder() {
        FeedCheck x = cast(HOUSE);
        due("of 0", x.top(0, 4), 0);
        due("of 4", x.top(4, 4), 1);
        x.take(0);
        due("none", x.top(0, 4), NONE);
        for (int i = 0; i < 4; i++) {
            x.put(0, 1, 9);
        }
        x.put(0, 99, 9);
        due("the last of six", x.top(0, 4), 5);
    }

    @Says(promise = 7, value = "UNKNOWN: no such SECTION")
    private static void topUnknown() {
        due("none yet", new FeedCheck().top(0, 0), UNKNOWN);
        due("an eleventh", cast(TEN).top(10, 0), UNKNOWN);
        refused("top(3, 0)", x -> x.top(3, 0), UNKNOWN);
        refused("top(-1, 0)", x -> x.top(-1, 0), UNKNOWN);
        for (int far : FAR) {
            due("top(" + far + ", " + far + ")", busy().top(far, far), UNKNOWN);
        }
    }

    @Says(promise = 7, value = "OUTSIDE")
    private static void topOutside() {
        refused("top(0, 5)", x -> x.top(0, 5), OUTSIDE);
        refused("top(0, -1)", x -> x.top(0, -1), OUTSIDE);
        due("of one that is no top", busy().top(1, 5), OUTSIDE);
        for (int far : FAR) {
            due("top(1, " + far + ")", busy().top(1, far), OUTSIDE);
        }
    }

    @Says(promise = 7, value = "NOT: it is no TOP.")
    private static void topNot() {
        for (int what = 0; what <= 4; what++) {
            int asked = what;
            refused("top(1, " + what + ")", x -> x.top(1, asked), NOT);
        }
        FeedCheck x = cast("section 9 9;section 9 9;joint 0 1");
        due("of like time, of the greater number", x.top(1, 0), NOT);
        due("of the lesser", x.top(0, 0), 3);
    }

    // ---- 8 riser

    @Says(promise = 8, value = "Of a RISER: its SECTION (what 0)")
    private static void riserSection() {
        FeedCheck x = cast(TEN, "riser 9 1 2;riser 0 3 4");
        due("the last section", x.riser(0, 0), 9);
        due("the first", x.riser(1, 0), 0);
    }

    @Says(promise = 8, value = "VOLUME (1)")
    private static void riserVolume() {
        FeedCheck x = cast("section 1 1;riser 0 1 5;riser 0 99 5");
        due("1", x.riser(0, 1), 1);
        due("99", x.riser(1, 1), 99);
    }

    @Says(promise = 8, value = "SKIN (2)")
    private static void riserSkin() {
        FeedCheck x = cast("section 1 1;riser 0 5 1;riser 0 5 99");
        due("1", x.riser(0, 2), 1);
        due("99", x.riser(1, 2), 99);
    }

    @Says(promise = 8, value = "STARVED (3, bits)")
    private static void riserStarved() {
        FeedCheck x = cast(HOUSE);
        due("two tops", x.riser(0, 3), 5);
        due("one top", x.riser(1, 3), 16);
        x.put(0, 25, 10);
        due("0 has another one now", x.riser(0, 3), 4);
        due("which starves none", x.riser(2, 3), 0);
        // Section 9 is top of a basin of its own.
        due("the tenth", cast(TEN, "riser 9 99 1").riser(0, 3), 512);
    }

    @Says(promise = 8, value = "UNKNOWN")
    private static void riserUnknown() {
        due("none yet", new FeedCheck().riser(0, 0), UNKNOWN);
        FeedCheck six = cast("section 1 1;" + repeat("riser 0 1 1", ";", 6));
        due("the sixth", six.riser(5, 0), 0);
        due("a seventh", six.riser(6, 0), UNKNOWN);
        six.take(0);
        due("the sixth is gone", six.riser(5, 0), UNKNOWN);
        refused("riser(2, 0)", x -> x.riser(2, 0), UNKNOWN);
        refused("riser(-1, 0)", x -> x.riser(-1, 0), UNKNOWN);
        for (int far : FAR) {
            due("riser(" + far + ", " + far + ")", six.riser(far, far), UNKNOWN);
        }
    }

    @Says(promise = 8, value = "OUTSIDE")
    private static void riserOutside() {
        refused("riser(0, 4)", x -> x.riser(0, 4), OUTSIDE);
        refused("riser(0, -1)", x -> x.riser(0, -1), OUTSIDE);
        for (int far : FAR) {
            due("riser(0, " + far + ")", busy().riser(0, far), OUTSIDE);
        }
    }
}
