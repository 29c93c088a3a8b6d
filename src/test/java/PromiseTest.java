/** For each promise of the document: ordinary inputs, the edges that it names, wrong inputs; answers worked out by hand. */
public final class PromiseTest extends Rig {
    private static final int[] WRONG = {Integer.MIN_VALUE, -1, 1000, Integer.MAX_VALUE};

    // Times 2, 1, 12/5, 4/11, 3; basins {0} {1, 2} {3, 4}; 0 drowned in 2 just so, 2 and 4 free.
    private static final String HOUSE = "casting;section 40 20;section 9 9;section 60 25;section 8 12;section 30 10;"
        + "joint 0 1;joint 1 2;joint 2 3;joint 3 4;joint 0 3;riser 2 50 15;riser 4 90 20;chill 3 1";
    private static final String CHAIN = "section 10 10;section 10 10;section 10 10;section 10 10;section 10 10;"
        + "joint 0 1;joint 1 2;joint 2 3;joint 3 4";

    public static void main(String[] args) {
        newObject(); write(); erase(); faultForms(); faultBounds(); faultLimits(); casting(); castingAfterCalls();
        section(); ties(); top(); drowned(); fed(); riser(); put(); take(); move(); chill(); undo(); keep(); back();
        order(); pass(); need(); best(); least(); bin(); addWhole(); addPair(); find(); pop(); sort(); pour(); sum();
        drop(); count(); refusalOrder();
        end("the promises");
    }

    private static void newObject() {
        promise = "1 new object";
        FeedCheck x = new FeedCheck();
        int[] first = {0, 0, 0, 0, 0, 0, 1, 6, 5, 50, 0, 0, 0};
        for (int what = 0; what < first.length; what++) {
            due("count(" + what + ")", x.count(what), first[what]);
        }
    }

    private static void write() {
        promise = "2 write";
        FeedCheck x = new FeedCheck();
        due("write(-1)", x.write(-1), OUTSIDE);
        due("write(256)", x.write(256), OUTSIDE);
        due("write(0)", x.write(0), 1);
        due("write(255)", x.write(255), 2);
        for (int i = 3; i <= 200; i++) {
            due("write " + i, x.write('a'), i);
        }
        due("the 201st", x.write('a'), FULL);
        due("the 201st, wrong too", x.write(256), OUTSIDE);
        due("letters", x.count(12), 200);
    }

    private static void erase() {
        promise = "3 erase";
        FeedCheck x = new FeedCheck();
        due("erase of none", x.erase(), 0);
        type(x, "section 1 1");
        due("erase", x.erase(), 11);
        due("letters", x.count(12), 0);
        due("erase again", x.erase(), 0);
        due("write", x.write('x'), 1);
    }

    private static void faultForms() {
        promise = "4 fault, forms";
        dueText("", 0);
        dueText("   ", 3);
        dueText("casting", NONE);
        dueText("  casting  ", NONE);
        dueText("casting;", 8);
        dueText("casting ; ", 10);
        dueText(";casting", 0);
        dueText("casting;;casting", 8);
        dueText("casting casting", 8);
        dueText("casting 1", 8);
        dueText("castings", 0);
        dueText("cast", 0);
        dueText("Casting", 0);
        dueText(" 1", 1);
        dueText("casting.", 7);
        dueText("casting\tcasting", 7);
        dueText("casting" + (char) 0, 7);
        dueText("casting" + (char) 233, 7);
        dueText("section1 1", NONE);
        dueText("section 1 1x", 11);
        dueText("section  1   1  ;  casting", NONE);
        dueText("section -1 1", 8);
        dueText("section 1,1", 9);
        dueText("section", 7);
        dueText("section ", 8);
        dueText("section 1", 9);
        dueText("section 1;", 9);
        dueText("section 1 1 1", 12);
        dueText("section a 1", 8);
    }

    private static void faultBounds() {
        promise = "4 fault, bounds";
        dueText("section 0 1", 8);
        dueText("section 1 0", 10);
        dueText("section 99 99", NONE);
        dueText("section 100 1", 8);
        dueText("section 1 100", 10);
        dueText("section 001 099", NONE);
        dueText("section 0001 1", 8);
        dueText("section 99999999999 1", 8);
        dueText("joint 0 1", 6);
        dueText("section 1 1;joint 0 0", 20);
        dueText("section 1 1;joint 0 1", 20);
        dueText("section 1 1;section 1 1;joint 0 1", NONE);
        dueText("section 1 1;section 1 1;joint 0 1;joint 1 0", NONE);
        dueText("section 1 1;section 1 1;joint 1 1", 32);
        dueText("section 1 1;section 1 1;joint 1 2", 32);
        dueText("section 1 1;joint 1 0", 18);
        dueText("riser 0 1 1", 6);
        dueText("section 1 1;riser 0 0 1", 20);
        dueText("section 1 1;riser 0 1 100", 22);
        dueText("section 1 1;riser 0 99 99", NONE);
        dueText("section 1 1;riser 1 1 1", 18);
        dueText("section 1 1;chill 0 0", NONE);
        dueText("section 1 1;chill 0 9", NONE);
        dueText("section 1 1;chill 0 10", 20);
        dueText("section 1 1;chill 1 1", 18);
        dueText("chill 0 1;section 1 1", 6);
        dueText("section 1 1;casting;chill 0 1", 26);
        dueText("rule 1 1 0", NONE);
        dueText("rule 99 99 100", NONE);
        dueText("rule 0 1 1", 5);
        dueText("rule 1 0 1", 7);
        dueText("rule 100 1 1", 5);
        dueText("rule 1 100 1", 7);
        dueText("rule 1 1 101", 9);
        dueText("rule 1 1", 8);
    }

    private static void faultLimits() {
        promise = "4 fault, limits";
        String ten = repeat("section 9 9", ";", 10);
        dueText(ten, NONE);
        dueText(ten + ";section 9 9", 120);
        dueText(ten + ";section", 120);
        dueText(ten + ";casting;section 9 9", NONE);
        String six = "section 1 1;" + repeat("riser 0 9 9", ";", 6);
        dueText(six, NONE);
        dueText(six + ";riser 0 9 9", 84);
        dueText(six + ";riser 7", 84);
        dueText(six + ";casting;riser 0 9 9", 98);
        dueText(six + ";casting;section 1 1;riser 0 9 9", NONE);
        dueText(repeat("casting", ";", 24), NONE);
        dueText(repeat("casting", ";", 24) + ";", 191);
        dueText(repeat("casting", ";", 25), 191);
        FeedCheck x = cast(ten);
        dueText(x, "section 9 9", 0);
        dueText(x, "joint 0 9", NONE);
        dueText(x, "casting;section 9 9", NONE);
        dueText(x, "casting;joint 0 9", 14);
        due("sections stay behind fault()", x.count(0), 10);
        due("joints are not made by fault()", x.count(1), 0);
    }

    private static void casting() {
        promise = "5 casting";
        FeedCheck x = new FeedCheck();
        due("no text", x.casting(), NOT);
        type(x, "section 1 1;section 2 0");
        due("a fault", x.casting(), NOT);
        due("nothing of it is done", x.count(0), 0);
        due("the text stays", x.erase(), 23);
        cast(x, "section 5 7;section 6 8;joint 0 1;joint 1 0;riser 1 3 4;chill 0 2;rule 7 8 9");
        due("text", x.count(12), 0);
        int[] then = {2, 1, 1, 2, 0, 2, 1, 7, 8, 9, 0, 0, 0};
        for (int what = 0; what < then.length; what++) {
            due("count(" + what + ")", x.count(what), then[what]);
        }
        cast(x, "section 1 1;joint 2 0;riser 2 5 6");
        due("earlier sections stay", x.section(0, 0), 5);
        due("earlier chills stay", x.section(0, 2), 2);
        due("joints", x.section(0, 3), 6);
        due("risers", x.count(2), 2);
        due("earlier riser", x.riser(0, 1), 3);
        due("rule stays", x.count(7) * 10000 + x.count(8) * 100 + x.count(9), 70809);
        cast(x, "casting");
        for (int what = 0; what < 7; what++) {
            due("at first count(" + what + ")", x.count(what), what == 6 ? 1 : 0);
        }
        due("rule at first", x.count(7) * 10000 + x.count(8) * 100 + x.count(9), 60550);
        cast(x, "section 1 1;section 1 1");
        due("no chills from before", x.section(0, 2), 0);
        due("no joints from before", x.section(0, 3), 0);
        cast(x, "chill 0 3;chill 0 4;rule 1 2 3;rule 4 5 6");
        due("the last chill", x.section(0, 2), 4);
        due("the last rule", x.count(7) * 10000 + x.count(8) * 100 + x.count(9), 40506);
    }

    private static void castingAfterCalls() {
        promise = "5 casting after calls";
        FeedCheck x = cast("section 9 9;section 8 8;riser 0 3 4;chill 0 2");
        x.put(1, 5, 6);
        x.take(0);
        x.chill(0, 7);
        x.move(0, 1, 3);
        x.keep(0);
        x.bin(0, 0);
        x.addWhole(0, 1);
        cast(x, "rule 1 1 1");
        due("risers as told", x.count(2), 1);
        due("riser as told", x.riser(0, 0) * 10000 + x.riser(0, 1) * 100 + x.riser(0, 2), 304);
        due("chills as told", x.section(0, 2) * 10 + x.section(1, 2), 20);
        due("nothing to undo", x.count(11), 0);
        due("undo", x.undo(), NOT);
        due("nothing kept", x.back(0), NOT);
        due("bins missing", x.sum(0), NULL);
        due("things", x.count(10), 0);
        for (int i = 0; i < 5; i++) {
            x.put(0, 1, 1);
        }
        dueText(x, repeat("riser 0 1 1", ";", 5), NONE);
        dueText(x, repeat("riser 0 1 1", ";", 6), 60);
    }

    private static void section() {
        promise = "6 section";
        FeedCheck x = cast(HOUSE);
        int[][] all = {
            {40, 20, 0, 10, 2, 1, 1, 0, 0},
            {9, 9, 0, 5, 1, 1, 0, 2, 1},
            {60, 25, 0, 10, 12, 5, 1, 2, 0},
            {8, 12, 1, 21, 4, 11, 0, 4, 1},
            {30, 10, 0, 8, 3, 1, 1, 4, 0}};
        for (int s = 0; s < all.length; s++) {
            for (int what = 0; what < 9; what++) {
                due("section(" + s + ", " + what + ")", x.section(s, what), all[s][what]);
            }
        }
        due("section(5, 0)", x.section(5, 0), UNKNOWN);
        due("section(0, 9)", x.section(0, 9), OUTSIDE);
        due("section(0, -1)", x.section(0, -1), OUTSIDE);
        due("section(5, 9)", x.section(5, 9), UNKNOWN);
        for (int s : WRONG) {
            due("section(" + s + ", 0)", x.section(s, 0), UNKNOWN);
        }
        FeedCheck y = cast("section 97 89;chill 0 9");
        due("above, nothing in common", y.section(0, 4), 97);
        due("below, nothing in common", y.section(0, 5), 179);
        FeedCheck z = cast("section 99 9;chill 0 9");
        due("above 99 by 99", z.section(0, 4), 1);
        due("below 99 by 99", z.section(0, 5), 1);
    }

    private static void ties() {
        promise = "6 section, like times";
        FeedCheck x = cast(CHAIN);
        due("only the least number is a top", x.count(3), 1);
        for (int s = 0; s < 5; s++) {
            due("steps " + s, x.section(s, 8), s);
            due("top " + s, x.section(s, 7), 0);
        }
        due("like times by other fractions", cast("section 20 10;section 10 5;joint 0 1").count(3), 1);
        due("the later, of the greater number", cast("section 20 10;section 11 5;joint 0 1").count(3), 2);
        due("no joints: all are tops", cast("section 1 1;section 1 1").count(3), 3);
        FeedCheck y = cast("section 1 9;section 9 1;section 9 1;joint 0 2;joint 0 1");
        due("of like neighbours the lesser number is later", y.section(0, 7), 1);
        FeedCheck z = cast("section 1 9;section 5 5;section 18 9;section 9 1;joint 0 1;joint 1 2;joint 2 3;joint 0 2");
        due("the steepest way", z.section(0, 8), 2);
    }

    private static void top() {
        promise = "7 top";
        FeedCheck x = cast(HOUSE);
        int[][] all = {{1, 2, 2, 1, 0}, null, {6, NONE, 2, 1, 0}, null, {24, NONE, 4, 1, 1}};
        for (int s = 0; s < 5; s++) {
            for (int what = 0; what < 5; what++) {
                due("top(" + s + ", " + what + ")", x.top(s, what), all[s] == null ? NOT : all[s][what]);
            }
        }
        due("top(0, 5)", x.top(0, 5), OUTSIDE);
        due("top(1, 5)", x.top(1, 5), OUTSIDE);
        due("top(1, -1)", x.top(1, -1), OUTSIDE);
        due("top(5, 5)", x.top(5, 5), UNKNOWN);
        for (int s : WRONG) {
            due("top(" + s + ", 0)", x.top(s, 0), UNKNOWN);
        }
    }

    private static void drowned() {
        promise = "7 top, drowned";
        // Tops 0, 2, 4 of times 2, 3, 4; passes 1 (of 0 and 2) and 3 (of 2 and 4) of time 1.
        String ridge = "section 20 10;section 10 10;section 30 10;section 10 10;section 40 10;"
            + "joint 0 1;joint 1 2;joint 2 3;joint 3 4;rule 6 5 ";
        int[][] heads = {{0, 2, 4, 4, 4}, {33, 2, 4, 4, 4}, {34, 2, NONE, 2, 2}, {50, 2, NONE, 2, 2}, {51, NONE, NONE, 0, 2}};
        for (int[] row : heads) {
            FeedCheck x = cast(ridge + row[0]);
            due("0 in, rule " + row[0], x.top(0, 1), row[1]);
            due("2 in, rule " + row[0], x.top(2, 1), row[2]);
            due("HEAD of 0, rule " + row[0], x.top(0, 2), row[3]);
            due("HEAD of 2, rule " + row[0], x.top(2, 2), row[4]);
            due("HEAD of 4, rule " + row[0], x.top(4, 2), 4);
        }
        FeedCheck apart = cast("section 20 10;section 10 10;rule 6 5 0");
        due("no pass, not drowned", apart.top(1, 1), NONE);
        // Top 0 meets both 2 and 4 in one basin each: the latest takes it.
        FeedCheck fork = cast("section 20 10;section 10 10;section 30 10;section 10 10;section 40 10;"
            + "joint 0 1;joint 1 2;joint 0 3;joint 3 4");
        due("in the latest", fork.top(0, 1), 4);
        // Two tops of like time: that of the greater number is sooner, and drowns.
        FeedCheck like = cast("section 10 10;section 5 10;section 10 10;joint 0 1;joint 1 2");
        due("the greater number drowns", like.top(2, 1), 0);
        due("the lesser does not", like.top(0, 1), NONE);
    }

    private static void fed() {
        promise = "7 top, fed";
        String plate = "section 20 10;riser 0 ";
        due("6 by 5 of 2, just", cast(plate + "24 10").top(0, 3), 1);
        due("6 by 5 of 2, not quite", cast(plate + "23 10").top(0, 3), 0);
        due("feeder of none", cast(plate + "23 10").top(0, 4), NONE);
        due("share 1 by 1", cast("rule 1 1 0;" + plate + "20 10").top(0, 3), 1);
        due("share 1 by 99", cast("rule 1 99 0;" + plate + "1 49").top(0, 3), 1);
        FeedCheck x = cast(HOUSE);
        due("by the drowned one's own riser, put later", x.put(0, 99, 1), 2);
        due("the least number feeds", x.top(0, 4), 0);
        x.take(0);
        due("one less of number", x.top(0, 4), 1);
        due("through the pass", x.top(2, 4), 1);
        due("not to another head", x.top(4, 4), 0);
        x.take(0);
        due("4 is not fed by those of head 2", x.top(4, 3), 0);
        FeedCheck y = cast(HOUSE + ";rule 6 5 51");
        due("a pass too low does not feed", y.top(0, 4), NONE);
        due("fed", y.count(5), 20);
        FeedCheck z = cast("section 20 10;section 9 9;joint 0 1;riser 1 24 10");
        due("a riser on any section of the basin", z.top(0, 4), 0);
    }

    private static void riser() {
        promise = "8 riser";
        FeedCheck x = cast(HOUSE);
        int[][] all = {{2, 50, 15, 5}, {4, 90, 20, 16}};
        for (int r = 0; r < 2; r++) {
            for (int what = 0; what < 4; what++) {
                due("riser(" + r + ", " + what + ")", x.riser(r, what), all[r][what]);
            }
        }
        x.put(0, 25, 10);
        due("2 alone starves now", x.riser(0, 3), 4);
        due("the spare starves none", x.riser(2, 3), 0);
        due("riser(0, 4)", x.riser(0, 4), OUTSIDE);
        due("riser(0, -1)", x.riser(0, -1), OUTSIDE);
        due("riser(3, 4)", x.riser(3, 4), UNKNOWN);
        for (int r : WRONG) {
            due("riser(" + r + ", 0)", x.riser(r, 0), UNKNOWN);
        }
    }

    private static void put() {
        promise = "9 put";
        FeedCheck x = cast(HOUSE);
        due("put(5, 1, 1)", x.put(5, 1, 1), UNKNOWN);
        due("put(-1, 0, 0)", x.put(-1, 0, 0), UNKNOWN);
        due("put(0, 0, 1)", x.put(0, 0, 1), OUTSIDE);
        due("put(0, 100, 1)", x.put(0, 100, 1), OUTSIDE);
        due("put(0, 1, 0)", x.put(0, 1, 0), OUTSIDE);
        due("put(0, 1, 100)", x.put(0, 1, 100), OUTSIDE);
        due("nothing to undo yet", x.count(11), 0);
        for (int r = 2; r < 6; r++) {
            due("put", x.put(r - 1, 99, r), r);
        }
        due("section of 5", x.riser(5, 0), 4);
        due("a seventh", x.put(0, 1, 1), FULL);
        due("a seventh, wrong too", x.put(0, 1, 0), OUTSIDE);
        due("refused are not to be undone", x.count(11), 4);
        due("risers", x.count(2), 6);
    }

    private static void take() {
        promise = "10 take";
        FeedCheck x = cast("section 9 9;section 8 8;riser 0 1 2;riser 1 3 4;riser 0 5 6");
        due("take(3)", x.take(3), UNKNOWN);
        due("take(-1)", x.take(-1), UNKNOWN);
        due("take(1)", x.take(1), 2);
        due("the first stays", x.riser(0, 1), 1);
        due("later one has one less", x.riser(1, 1) * 10 + x.riser(1, 2), 56);
        due("take(2)", x.take(2), UNKNOWN);
        due("take(1)", x.take(1), 1);
        due("take(0)", x.take(0), 0);
        due("take(0) of none", x.take(0), UNKNOWN);
    }

    private static void move() {
        promise = "11 move";
        FeedCheck x = cast("section 9 9;section 8 8;section 7 7;chill 0 9;chill 1 4");
        due("move(0, 0, 1)", x.move(0, 0, 1), UNKNOWN);
        due("move(0, 3, 1)", x.move(0, 3, 1), UNKNOWN);
        due("move(3, 0, 0)", x.move(3, 0, 0), UNKNOWN);
        due("move(0, 1, 0)", x.move(0, 1, 0), OUTSIDE);
        due("move(0, 1, 10)", x.move(0, 1, 10), OUTSIDE);
        due("move(2, 1, 10)", x.move(2, 1, 10), OUTSIDE);
        due("too few", x.move(1, 2, 5), NOT);
        due("too many", x.move(0, 1, 6), NOT);
        due("none to undo", x.count(11), 0);
        due("just so many", x.move(0, 1, 5), 9);
        due("left", x.section(0, 2), 4);
        due("all", x.move(1, 2, 9), 9);
        due("none left", x.section(1, 2), 0);
        due("undoable", x.count(11), 2);
    }

    private static void chill() {
        promise = "12 chill";
        FeedCheck x = cast(HOUSE);
        due("chill(5, 1)", x.chill(5, 1), UNKNOWN);
        due("chill(-1, 10)", x.chill(-1, 10), UNKNOWN);
        due("chill(0, 10)", x.chill(0, 10), OUTSIDE);
        due("chill(0, -1)", x.chill(0, -1), OUTSIDE);
        due("it has", x.chill(3, 1), NOT);
        due("it has 0", x.chill(0, 0), NOT);
        due("none to undo", x.count(11), 0);
        due("1.33 is a top yet", x.chill(0, 1), 3);
        due("0.8 is none", x.chill(0, 3), 2);
        due("tops", x.count(3), 20);
        due("0 again", x.chill(0, 0), 3);
        due("9", x.chill(2, 9), 2);
        due("chills", x.section(2, 2), 9);
    }

    private static void undo() {
        promise = "13 undo";
        FeedCheck x = cast(HOUSE);
        due("none", x.undo(), NOT);
        x.put(0, 7, 7);
        x.take(0);
        x.move(3, 0, 1);
        x.chill(0, 5);
        due("chill undone", x.undo(), 3);
        due("chills", x.section(0, 2), 1);
        due("move undone", x.undo(), 2);
        due("chills", x.section(0, 2) * 10 + x.section(3, 2), 1);
        due("take undone", x.undo(), 1);
        due("riser 0 is there", x.riser(0, 1), 50);
        due("riser 2 too", x.riser(2, 1), 7);
        due("put undone", x.undo(), 0);
        due("risers", x.count(2), 2);
        due("no more", x.undo(), NOT);
        for (int n = 1; n <= 9; n++) {
            x.chill(0, n);
            due("undoable", x.count(11), Math.min(n, 8));
        }
        x.chill(0, 0);
        for (int n = 7; n >= 0; n--) {
            due("undo", x.undo(), n);
        }
        due("the two first are not undone", x.section(0, 2), 2);
        due("no more", x.undo(), NOT);
    }

    private static void keep() {
        promise = "14 keep";
        FeedCheck x = cast(HOUSE);
        due("keep(-1)", x.keep(-1), UNKNOWN);
        due("keep(2)", x.keep(2), UNKNOWN);
        due("keep(0)", x.keep(0), 2);
        x.put(0, 9, 9);
        due("keep(1)", x.keep(1), 3);
        due("undoable yet", x.count(11), 1);
        x.take(0);
        due("keep(0) again", x.keep(0), 2);
        x.undo();
        due("the later one is kept", x.back(0), 2);
        due("its riser", x.riser(0, 1), 90);
    }

    private static void back() {
        promise = "15 back";
        FeedCheck x = cast(HOUSE);
        due("back(2)", x.back(2), UNKNOWN);
        due("back(-1)", x.back(-1), UNKNOWN);
        due("nothing kept", x.back(0), NOT);
        x.keep(1);
        due("the other one", x.back(0), NOT);
        x.take(0);
        x.take(0);
        x.chill(4, 4);
        due("back(1)", x.back(1), 2);
        due("chills", x.section(4, 2), 0);
        due("riser", x.riser(1, 2), 20);
        due("none to undo", x.undo(), NOT);
        x.take(0);
        due("once more", x.back(1), 2);
        cast(x, "chill 0 1");
        due("behind a text", x.back(1), NOT);
        x.keep(0);
        dueText(x, "nothing", 0);
        due("a text with a fault takes nothing", x.back(0), 2);
    }

    private static void order() {
        promise = "16 order";
        FeedCheck x = cast(HOUSE);
        int[] due = {3, 1, 0, 2, 4, NONE, NONE};
        for (int k = 0; k < due.length; k++) {
            due("order(" + k + ")", x.order(k), due[k]);
        }
        due("order(-1)", x.order(-1), OUTSIDE);
        due("order(min)", x.order(Integer.MIN_VALUE), OUTSIDE);
        due("order(max)", x.order(Integer.MAX_VALUE), NONE);
        FeedCheck y = cast(CHAIN);
        for (int k = 0; k < 5; k++) {
            due("like ones, " + k, y.order(k), 4 - k);
        }
    }

    private static void pass() {
        promise = "17 pass";
        FeedCheck x = cast(HOUSE);
        due("pass(0, 2)", x.pass(0, 2), 1);
        due("pass(1, 0)", x.pass(1, 0), 1);
        due("pass(0, 4)", x.pass(0, 4), 3);
        due("pass(1, 3)", x.pass(1, 3), 3);
        due("one basin", x.pass(1, 2), NONE);
        due("twice", x.pass(1, 1), UNKNOWN);
        due("pass(0, 5)", x.pass(0, 5), UNKNOWN);
        due("pass(-1, 0)", x.pass(-1, 0), UNKNOWN);
        due("no joint", cast("section 1 1;section 1 1").pass(0, 1), NONE);
        // Two joints between the basins of 0 and 3: by 1 (of time 1) and by 2 (of time 2).
        FeedCheck y = cast("section 90 10;section 10 10;section 20 10;section 80 10;joint 0 1;joint 1 3;joint 0 2;joint 2 3");
        due("of several the latest", y.pass(0, 3), 2);
    }

    private static void need() {
        promise = "18 need";
        FeedCheck x = cast(HOUSE);
        due("need(0, 10)", x.need(0, 10), 24);
        due("need(0, 1)", x.need(0, 1), 3);
        due("need(4, 99)", x.need(4, 99), 357);
        due("need(1, 1)", x.need(1, 1), NOT);
        due("need(1, 0)", x.need(1, 0), OUTSIDE);
        due("need(0, 100)", x.need(0, 100), OUTSIDE);
        due("need(5, 0)", x.need(5, 0), UNKNOWN);
        due("need(-1, 1)", x.need(-1, 1), UNKNOWN);
        due("just 999", cast("section 27 1;rule 1 1 0").need(0, 37), 999);
        due("1000 is none", cast("section 25 1;rule 1 1 0").need(0, 40), NONE);
        due("the most", cast("section 99 1;rule 99 1 0").need(0, 99), NONE);
        due("the least", cast("section 1 99;rule 1 99 0;chill 0 9").need(0, 1), 1);
    }

    private static void best() {
        promise = "19 best";
        FeedCheck x = cast(HOUSE);
        due("best(1, 0)", x.best(1, 0), 0);
        due("best(1, 1)", x.best(1, 1), 3);
        due("best(3, 0)", x.best(3, 0), 0);
        due("best(3, 1)", x.best(3, 1), 2);
        due("best(0, 0)", x.best(0, 0), OUTSIDE);
        due("best(10, 0)", x.best(10, 0), OUTSIDE);
        due("best(1, 2)", x.best(1, 2), OUTSIDE);
        due("best(1, -1)", x.best(1, -1), OUTSIDE);
        due("nothing changes", x.section(0, 2), 0);
        due("nothing changes", x.count(3), 21);
        due("no sections", new FeedCheck().best(1, 0), NONE);
        due("no sections", new FeedCheck().best(1, 1), NONE);
        // 1 is a top of time 6 between tops; only its fall to 60/100 leaves fewer tops.
        FeedCheck y = cast("section 9 9;section 60 10;section 80 10;joint 0 1;joint 0 2");
        due("not the least number", y.best(9, 0), 1);
        due("one top", y.best(9, 1), 1);
        // 9 at most: 0 comes from 8 to 9 and no more, so that its 90/99 stays above the 45/50 of 1.
        FeedCheck z = cast("section 90 9;section 45 50;section 99 1;joint 0 1;joint 1 2;chill 0 8");
        due("9 at most", z.best(9, 1), 2);
        FeedCheck full = cast("section 90 9;chill 0 9");
        due("one that has 9 stays", full.best(5, 0), 0);
        due("its tops", full.best(5, 1), 1);
    }

    private static void least() {
        promise = "20 least";
        FeedCheck x = cast(HOUSE);
        due("both", x.least(0), 3);
        due("how many", x.least(1), 2);
        x.put(2, 99, 1);
        due("the first by bits", x.least(0), 3);
        x.take(0);
        due("by new numbers", x.least(0), 3);
        due("least(2)", x.least(2), OUTSIDE);
        due("least(-1)", x.least(-1), OUTSIDE);
        // Riser 0 feeds top 0 alone, riser 1 the other alone, riser 2 both: through the pass.
        FeedCheck y = cast("section 10 10;section 9 10;section 20 10;joint 0 1;joint 1 2;riser 0 12 10;riser 2 1 9;riser 2 24 10");
        due("one for both", y.least(0), 4);
        due("how many", y.least(1), 1);
        due("none feeds any", cast("section 9 1;riser 0 1 9").least(0), 0);
        // Tops 0 and 1 apart; 0 and 3 on the one, 1 and 2 on the other: 3 (0 and 1) is ahead of 5, 10, 12.
        FeedCheck z = cast("section 1 1;section 1 1;riser 0 9 1;riser 1 9 1;riser 1 9 1;riser 0 9 1");
        due("first by bits", z.least(0), 3);
        // Of each top's risers the one of the least number: 0, 2, 4 and 5.
        FeedCheck w = cast("section 1 1;section 1 1;section 9 9;section 3 3;riser 0 9 1;riser 0 9 1;riser 1 9 1;riser 1 9 1;riser 2 9 1;riser 3 9 1");
        due("first by bits of four", w.least(0), 53);
    }

    private static void bin() {
        promise = "21 bin";
        FeedCheck x = new FeedCheck();
        due("bin(3, 0)", x.bin(3, 0), UNKNOWN);
        due("bin(-1, 5)", x.bin(-1, 5), UNKNOWN);
        due("bin(0, 2)", x.bin(0, 2), OUTSIDE);
        due("bin(0, -1)", x.bin(0, -1), OUTSIDE);
        due("it is missing yet", x.sum(0), NULL);
        due("bin(2, 0)", x.bin(2, 0), 0);
        x.addWhole(2, 1);
        due("anew, of the other kind", x.bin(2, 1), 0);
        due("it has nothing", x.find(2, 2), EMPTY);
        due("its kind", x.addWhole(2, 1), KIND);
    }

    private static void addWhole() {
        promise = "22 addWhole";
        FeedCheck x = new FeedCheck();
        due("missing", x.addWhole(0, 0), NULL);
        due("missing, outside", x.addWhole(0, 1000), OUTSIDE);
        due("addWhole(3, 1000)", x.addWhole(3, 1000), UNKNOWN);
        due("addWhole(-1, 0)", x.addWhole(-1, 0), UNKNOWN);
        x.bin(0, 0);
        due("-1000", x.addWhole(0, -1000), OUTSIDE);
        for (int i = 1; i <= 8; i++) {
            due("add", x.addWhole(0, i % 2 == 0 ? 999 : -999), i);
        }
        due("a ninth", x.addWhole(0, 0), ROOM);
        due("a ninth of the other kind", x.addPair(0, 0, 0), KIND);
        due("things", x.count(10), 8);
    }

    private static void addPair() {
        promise = "23 addPair";
        FeedCheck x = new FeedCheck();
        due("missing", x.addPair(1, 0, 0), NULL);
        due("addPair(3, 100, 0)", x.addPair(3, 100, 0), UNKNOWN);
        due("addPair(1, -1, 0)", x.addPair(1, -1, 0), OUTSIDE);
        due("addPair(1, 0, 100)", x.addPair(1, 0, 100), OUTSIDE);
        due("addPair(1, 100, 0)", x.addPair(1, 100, 0), OUTSIDE);
        due("addPair(1, 0, -1)", x.addPair(1, 0, -1), OUTSIDE);
        x.bin(1, 1);
        for (int i = 1; i <= 8; i++) {
            due("add", x.addPair(1, 99, i), i);
        }
        due("a ninth", x.addPair(1, 0, 0), ROOM);
        due("a ninth of the other kind", x.addWhole(1, 0), KIND);
        due("the last", x.find(1, 2), 9908);
    }

    private static void find() {
        promise = "24 find";
        FeedCheck x = new FeedCheck();
        due("missing", x.find(0, 0), NULL);
        due("missing, outside", x.find(0, 3), OUTSIDE);
        due("find(3, 3)", x.find(3, 3), UNKNOWN);
        due("find(-1, 0)", x.find(-1, 0), UNKNOWN);
        x.bin(0, 0);
        due("empty", x.find(0, 0), EMPTY);
        due("find(0, -1)", x.find(0, -1), OUTSIDE);
        x.addWhole(0, -5);
        x.addWhole(0, 0);
        x.addWhole(0, -7);
        x.addWhole(0, -6);
        due("greatest", x.find(0, 0), 20000);
        due("least", x.find(0, 1), 19993);
        due("last", x.find(0, 2), 19994);
        x.bin(1, 1);
        x.addPair(1, 2, 1);
        x.addPair(1, 1, 99);
        due("greatest pair", x.find(1, 0), 201);
        due("least pair", x.find(1, 1), 199);
    }

    private static void pop() {
        promise = "25 pop";
        FeedCheck x = new FeedCheck();
        due("pop(3)", x.pop(3), UNKNOWN);
        due("pop(-1)", x.pop(-1), UNKNOWN);
        due("missing", x.pop(0), NULL);
        x.bin(0, 1);
        due("empty", x.pop(0), EMPTY);
        x.addPair(0, 7, 8);
        x.addPair(0, 1, 2);
        due("last", x.pop(0), 102);
        due("first", x.pop(0), 708);
        due("empty", x.pop(0), EMPTY);
    }

    private static void sort() {
        promise = "26 sort";
        FeedCheck x = new FeedCheck();
        due("sort(3)", x.sort(3), UNKNOWN);
        due("sort(-1)", x.sort(-1), UNKNOWN);
        due("missing", x.sort(0), NULL);
        x.bin(0, 0);
        due("of none", x.sort(0), 0);
        int[] in = {5, -999, 3, 3, 999, 0, -1, 4};
        int[] out = {999, 5, 4, 3, 3, 0, -1, -999};
        for (int v : in) {
            x.addWhole(0, v);
        }
        due("sort", x.sort(0), 8);
        for (int v : out) {
            due("pop", x.pop(0), v + 20000);
        }
        x.bin(1, 1);
        x.addPair(1, 2, 0);
        x.addPair(1, 1, 9);
        x.addPair(1, 1, 8);
        due("sort pairs", x.sort(1), 3);
        due("pop", x.pop(1), 200);
        due("pop", x.pop(1), 109);
        due("pop", x.pop(1), 108);
    }

    private static void pour() {
        promise = "27 pour";
        FeedCheck x = new FeedCheck();
        due("pour(0, 0)", x.pour(0, 0), UNKNOWN);
        due("pour(0, 3)", x.pour(0, 3), UNKNOWN);
        due("pour(-1, 0)", x.pour(-1, 0), UNKNOWN);
        due("both missing", x.pour(0, 1), NULL);
        x.bin(0, 0);
        due("the other missing", x.pour(0, 1), NULL);
        due("the one missing", x.pour(1, 0), NULL);
        x.bin(1, 1);
        due("unlike", x.pour(0, 1), KIND);
        x.bin(2, 0);
        due("none into none", x.pour(0, 2), 0);
        x.addWhole(0, 1);
        x.addWhole(0, 2);
        x.addWhole(0, 3);
        x.addWhole(2, 9);
        x.addWhole(2, 8);
        due("pour", x.pour(0, 2), 5);
        due("the one has its own yet", x.find(0, 2), 20003);
        due("just 8", x.pour(2, 0), 8);
        due("9 and more", x.pour(2, 0), ROOM);
        int[] out = {3, 2, 1, 8, 9, 3, 2, 1};
        for (int v : out) {
            due("pop", x.pop(0), v + 20000);
        }
        due("unlike, no room too", x.pour(2, 1), KIND);
        due("things", x.count(10), 5);
    }

    private static void sum() {
        promise = "28 sum";
        FeedCheck x = new FeedCheck();
        due("sum(3)", x.sum(3), UNKNOWN);
        due("sum(-1)", x.sum(-1), UNKNOWN);
        due("missing", x.sum(0), NULL);
        x.bin(0, 0);
        due("of none", x.sum(0), 0);
        x.addWhole(0, -999);
        x.addWhole(0, 1);
        due("wholes", x.sum(0), 39002);
        x.bin(1, 1);
        x.addPair(1, 99, 99);
        x.addPair(1, 0, 1);
        due("pairs", x.sum(1), 10000);
    }

    private static void drop() {
        promise = "29 drop";
        FeedCheck x = new FeedCheck();
        due("drop(3)", x.drop(3), UNKNOWN);
        due("drop(-1)", x.drop(-1), UNKNOWN);
        due("missing", x.drop(0), NULL);
        x.bin(0, 0);
        x.addWhole(0, 1);
        x.addWhole(0, 1);
        due("drop", x.drop(0), 2);
        due("missing now", x.drop(0), NULL);
        due("missing now", x.addWhole(0, 1), NULL);
        due("things", x.count(10), 0);
        x.bin(0, 1);
        due("drop of none", x.drop(0), 0);
    }

    private static void count() {
        promise = "30 count";
        FeedCheck x = cast(HOUSE);
        x.chill(4, 1);
        x.bin(2, 0);
        x.addWhole(2, 1);
        type(x, "abc");
        // 4 has time 3/2 now, later than 3 yet: the tops are as before.
        int[] then = {5, 5, 2, 21, 1, 21, 1, 6, 5, 50, 1, 1, 3};
        for (int what = 0; what < then.length; what++) {
            due("count(" + what + ")", x.count(what), then[what]);
        }
        due("count(13)", x.count(13), OUTSIDE);
        due("count(-1)", x.count(-1), OUTSIDE);
        x.take(1);
        due("fed", x.count(5), 5);
        due("whole", x.count(6), 0);
        due("undoable", x.count(11), 2);
    }

    private static void refusalOrder() {
        promise = "the order of the refusals";
        FeedCheck x = cast("section 1 1;" + repeat("riser 0 1 1", ";", 6));
        due("UNKNOWN ahead of OUTSIDE and FULL", x.put(1, 0, 0), UNKNOWN);
        due("OUTSIDE ahead of FULL", x.put(0, 0, 1), OUTSIDE);
        due("FULL", x.put(0, 1, 1), FULL);
        due("UNKNOWN ahead of OUTSIDE and NOT", x.move(0, 0, 0), UNKNOWN);
        due("OUTSIDE ahead of NULL", x.addPair(0, 0, 100), OUTSIDE);
    }
}
