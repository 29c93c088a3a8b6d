/** Each sentence of the document's terms that names a bound or an edge has a test of its own here; answers worked out by hand. */
public final class TermsBoundaryTest extends Rig {
    private static final String TEN = repeat("section 9 9", ";", 10);
    private static final String SIX = "section 1 1;" + repeat("riser 0 9 9", ";", 6);
    // Tops 0, 2, 4 of times 2, 3, 4; between them 1 and 3 of time 1; a rule is to follow.
    private static final String RIDGE = "section 20 10;section 10 10;section 30 10;section 10 10;section 40 10;"
        + "joint 0 1;joint 1 2;joint 2 3;joint 3 4;";

    public static void main(String[] args) throws Exception {
        runSentences(TermsBoundaryTest.class, 0, 0);
    }

    private static int rule(FeedCheck x) {
        return x.count(7) * 100000 + x.count(8) * 1000 + x.count(9);
    }

    // ---- sections, joints, risers, rules

    @Says(promise = 0, value = "SECTIONS 0, 1 .., 10 at most (none at first)")
    private static void sections() {
        due("at first", new FeedCheck().count(0), 0);
        due("0 at first", new FeedCheck().section(0, 0), UNKNOWN);
        FeedCheck x = cast(TEN);
        due("ten", x.count(0), 10);
        due("the first", x.section(0, 0), 9);
        due("the tenth", x.section(9, 0), 9);
        due("an eleventh", x.section(10, 0), UNKNOWN);
        dueText(x, "section 9 9", 0);
    }

    @Says(promise = 0, value = "each of a VOLUME and a SKIN (1 .. 99 each)")
    private static void sectionBounds() {
        FeedCheck x = cast("section 1 99;section 99 1");
        due("least volume", x.section(0, 0), 1);
        due("greatest skin", x.section(0, 1), 99);
        due("greatest volume", x.section(1, 0), 99);
        due("least skin", x.section(1, 1), 1);
        dueText("section 0 1", 8);
        dueText("section 100 1", 8);
        dueText("section 1 0", 10);
        dueText("section 1 100", 10);
    }

    @Says(promise = 0, value = "with CHILLS (0 .. 9 each has; 0 at first)")
    private static void chillBounds() {
        FeedCheck x = cast("section 1 1;section 1 1");
        due("at first", x.section(0, 2), 0);
        x.chill(0, 9);
        x.chill(1, 9);
        due("each has 9", x.section(0, 2) * 10 + x.section(1, 2), 99);
        due("10", x.chill(0, 10), OUTSIDE);
        due("a tenth moved", x.move(1, 0, 1), NOT);
        due("0", x.chill(0, 0) < 0 ? NOT : x.section(0, 2), 0);
        due("below 0", x.chill(0, -1), OUTSIDE);
    }

    @Says(promise = 0, value = "JOINTS join two SECTIONS (NEIGHBOURS)")
    private static void joints() {
        FeedCheck x = cast("section 1 1;section 1 1;section 1 1;joint 2 0");
        due("one joint", x.count(1), 1);
        due("of the one", x.section(2, 3), 1);
        due("of the other", x.section(0, 3), 4);
        due("of a third", x.section(1, 3), 0);
    }

    @Says(promise = 0, value = "RISERS 0, 1 .., 6 at most (none at first)")
    private static void risers() {
        due("at first", new FeedCheck().count(2), 0);
        due("0 at first", new FeedCheck().riser(0, 0), UNKNOWN);
        FeedCheck x = cast(SIX);
        due("six told", x.count(2), 6);
        due("the sixth", x.riser(5, 1), 9);
        due("a seventh", x.riser(6, 1), UNKNOWN);
        FeedCheck y = cast("section 1 1");
        for (int r = 0; r < 6; r++) {
            due("put", y.put(0, 1, 1), r);
        }
        due("a seventh put", y.put(0, 1, 1), FULL);
        due("six put", y.count(2), 6);
    }

    @Says(promise = 0, value = "each on a SECTION, of a VOLUME and a SKIN (1 .. 99)")
    private static void riserBounds() {
        FeedCheck x = cast("section 1 1;section 1 1;riser 1 1 99;riser 0 99 1");
        due("told", fit(x), "chills 0 0 risers 1/1/99 0/99/1");
        x.put(0, 1, 99);
        x.put(1, 99, 1);
        due("put", fit(x), "chills 0 0 risers 1/1/99 0/99/1 0/1/99 1/99/1");
        dueText(x, "riser 0 0 1", 8);
        dueText(x, "riser 0 100 1", 8);
        dueText(x, "riser 0 1 0", 10);
        dueText(x, "riser 0 1 100", 10);
    }

    @Says(promise = 0, value = "THE SHARE is a by b (1 .. 99 each; 6 by 5 at first): a RISER must be a times as much as b times")
    private static void share() {
        due("at first", rule(new FeedCheck()), 605050);
        due("6 by 5, just", cast("section 5 1;riser 0 6 1").top(0, 3), 1);
        due("6 by 5, not quite", cast("section 5 1;riser 0 59 10").top(0, 3), 0);
        due("99 by 1, just", cast("section 1 1;riser 0 99 1;rule 99 1 0").top(0, 3), 1);
        due("99 by 1, not quite", cast("section 1 1;riser 0 98 1;rule 99 1 0").top(0, 3), 0);
        due("1 by 99, just", cast("section 99 1;riser 0 1 1;rule 1 99 0").top(0, 3), 1);
        due("1 by 99, not quite", cast("section 99 1;riser 0 98 99;rule 1 99 0").top(0, 3), 0);
    }

    @Says(promise = 0, value = "THE PASS is c (0 .. 100; 50 at first)")
    private static void passPart() {
        due("at first", new FeedCheck().count(9), 50);
        due("0", cast("rule 1 1 0").count(9), 0);
        due("100", cast("rule 1 1 100").count(9), 100);
        dueText("rule 1 1 101", 9);
        due("0: the lowest pass is high enough", cast("section 99 1;section 1 99;section 99 1;joint 0 1;joint 1 2;chill 1 9;rule 6 5 0").top(2, 1), 0);
        // 1 is of like time, but of the greater number: not later than 0, and just as high.
        due("100: a pass of the top's own time", cast("section 9 9;section 9 9;section 9 1;joint 0 1;joint 1 2;rule 6 5 100").top(0, 1), 2);
        due("100: a pass a little lower", cast("section 99 98;section 9 9;section 9 1;joint 0 1;joint 1 2;rule 6 5 100").top(0, 1), NONE);
        due("100: a hair lower, 97 by 98 of 98 by 99", cast("section 98 99;section 97 98;section 9 1;joint 0 1;joint 1 2;rule 6 5 100").top(0, 1), NONE);
    }

    // ---- times

    @Says(promise = 0, value = "TIME of a SECTION: its VOLUME by its SKIN and 10 times its CHILLS")
    private static void timeOfSection() {
        FeedCheck x = cast("section 99 99;section 1 1;chill 0 9;chill 1 1");
        due("99 by 189, above", x.section(0, 4), 11);
        due("99 by 189, below", x.section(0, 5), 21);
        due("1 by 11, above", x.section(1, 4), 1);
        due("1 by 11, below", x.section(1, 5), 11);
        x.chill(1, 0);
        due("1 by 1, below", x.section(1, 5), 1);
    }

    @Says(promise = 0, value = "of a RISER: its VOLUME by its SKIN (fractions)")
    private static void timeOfRiser() {
        // The top wants 3/2 just; 1 by 1 and 3 by 2 are unlike, though whole numbers would not tell.
        due("3 by 2", cast("section 3 2;riser 0 3 2;rule 1 1 0").top(0, 3), 1);
        due("1 by 1", cast("section 3 2;riser 0 1 1;rule 1 1 0").top(0, 3), 0);
        due("97 by 65, a little less", cast("section 3 2;riser 0 97 65;rule 1 1 0").top(0, 3), 0);
        due("98 by 65, a little more", cast("section 3 2;riser 0 98 65;rule 1 1 0").top(0, 3), 1);
        due("chills of its section are not the riser's", cast("section 3 2;riser 0 3 2;chill 0 9;rule 1 1 0").top(0, 3), 1);
    }

    @Says(promise = 0, value = "Of two SECTIONS the one of less TIME, of like ones that of the greater number, is SOONER; the other one is LATER.")
    private static void sooner() {
        FeedCheck less = cast("section 98 99;section 97 98");
        due("97 by 98 is less than 98 by 99", less.order(0), 1);
        due("the other way round", cast("section 97 98;section 98 99").order(0), 0);
        FeedCheck like = cast("section 2 1;section 98 49;section 60 20;chill 2 1");
        due("of like ones the greatest number is sooner", like.order(0), 2);
        due("then the next", like.order(1), 1);
        due("the least number is latest", like.order(2), 0);
    }

    // ---- the text

    @Says(promise = 0, value = "THE TEXT is a row of letters, 200 at most")
    private static void letters() {
        FeedCheck x = type(new FeedCheck(), repeat(" ", "", 193) + "casting");
        due("200", x.count(12), 200);
        due("one more", x.write(' '), FULL);
        due("all 200 are read", x.fault(), NONE);
        due("and done", x.casting(), 1);
        due("there is room again", x.write(' '), 1);
    }

    // A semicolon stands between clauses; behind the 24th none can follow, so that it cannot stand there.
    @Says(promise = 0, value = "CLAUSES with ; between, 24 at most")
    private static void clauses() {
        dueText("casting;casting", NONE);
        dueText("casting casting", 8);
        dueText("casting;;casting", 8);
        dueText(";casting", 0);
        dueText("casting;", 8);
        dueText(repeat("casting", ";", 24), NONE);
        dueText(repeat("casting", ";", 25), 191);
        due("24 are done", cast(repeat("casting", ";", 24)).count(12), 0);
    }

    @Says(promise = 0, value = "each is one of: casting. section V K. joint I J. riser I V K. chill I N. rule A B C.")
    private static void clauseForms() {
        String two = "section 1 1;section 1 1;";
        dueText("casting", NONE);
        dueText(two + "joint 0 1", NONE);
        dueText(two + "riser 0 1 1", NONE);
        dueText(two + "chill 0 1", NONE);
        dueText("rule 1 1 1", NONE);
        dueText("casting 1", 8);
        dueText("section 1 1 1", 12);
        dueText(two + "joint 0 1 1", 34);
        dueText(two + "riser 0 1 1 1", 36);
        dueText(two + "chill 0 1 1", 34);
        dueText("rule 1 1 1 1", 11);
        for (String other : new String[] {"cast", "castings", "sectio", "sections", "join", "joints", "rise", "risers", "chil", "chills", "rul", "rules", "pass",
            "gasting", "tection", "point", "miser", "shill", "mule"}) {
            dueText(other, 0);
        }
    }

    @Says(promise = 0, value = "As written here, without points")
    private static void withoutPoints() {
        dueText("casting.", 7);
        dueText("section 1 1.", 11);
        dueText("section V K", 8);
        dueText(".", 0);
    }

    @Says(promise = 0, value = "casting: all as at first")
    private static void castingClause() {
        FeedCheck x = cast("section 5 5;section 6 6;joint 0 1;riser 0 1 1;chill 0 5;rule 9 9 9", "casting");
        int[] first = {0, 0, 0, 0, 0, 0, 1, 6, 5, 50, 0, 0, 0};
        for (int what = 0; what < first.length; what++) {
            due("count(" + what + ")", x.count(what), first[what]);
        }
        cast(x, "section 1 1;section 1 1");
        due("nothing of what was is there", x.section(0, 3) + x.section(1, 3) + x.section(0, 2), 0);
        FeedCheck y = cast("section 5 5;rule 9 9 9;casting;section 7 7");
        due("within a text", y.count(0) * 100 + y.section(0, 0), 107);
        due("the rule too", rule(y), 605050);
        dueText(cast(TEN), "casting;section 1 1", NONE);
        dueText(cast(TEN), "casting;joint 0 1", 14);
    }

    @Says(promise = 0, value = "section: a SECTION more, of VOLUME V, SKIN K, an eleventh cannot stand there (at its word)")
    private static void sectionClause() {
        FeedCheck x = cast("section 3 4");
        due("volume and skin", x.section(0, 0) * 10 + x.section(0, 1), 34);
        dueText(TEN, NONE);
        dueText(TEN + ";section 9 9", 120);
        dueText(TEN + ";section", 120);
        dueText(TEN + "; section 0", 121);
        dueText(cast(repeat("section 9 9", ";", 9)), "section 1 1;section 1 1", 12);
    }

    @Says(promise = 0, value = "joint: I and J, told ahead, unlike, are NEIGHBOURS, also if they are")
    private static void jointClause() {
        dueText("joint 0 1", 6);
        dueText("joint 0 1;section 1 1;section 1 1", 6);
        dueText("section 1 1;joint 1 0", 18);
        dueText("section 1 1;joint 0 1", 20);
        dueText("section 1 1;joint 0 0", 20);
        dueText(TEN + ";joint 0 9;joint 9 8", NONE);
        dueText(TEN + ";joint 0 10", 128);
        FeedCheck x = cast("section 1 1;section 1 1;joint 0 1;joint 0 1;joint 1 0");
        due("once more and the other way round", x.count(1), 1);
        due("neighbours", x.section(0, 3) * 10 + x.section(1, 3), 21);
        dueText(x, "joint 1 0", NONE);
    }

    @Says(promise = 0, value = "riser: a RISER more on I, told ahead, a seventh cannot")
    private static void riserClause() {
        dueText("riser 0 1 1", 6);
        dueText("section 1 1;riser 1 1 1", 18);
        dueText(SIX, NONE);
        dueText(SIX + ";riser 0 9 9", 84);
        dueText(SIX + ";riser", 84);
        dueText(cast(SIX), "riser 0 9 9", 0);
        dueText(cast(SIX), "casting;section 1 1;riser 0 9 9", NONE);
    }

    @Says(promise = 0, value = "chill: I, told ahead, has CHILLS N, 0 to 9")
    private static void chillClause() {
        dueText("chill 0 1", 6);
        dueText("section 1 1;chill 1 1", 18);
        dueText("section 1 1;chill 0 10", 20);
        due("9", cast("section 1 1;chill 0 9").section(0, 2), 9);
        due("has, and not more", cast("section 1 1;chill 0 9;chill 0 2").section(0, 2), 2);
        due("0", cast("section 1 1;chill 0 9;chill 0 0").section(0, 2), 0);
        due("the same once more", cast("section 1 1;chill 0 0").section(0, 2), 0);
    }

    @Says(promise = 0, value = "rule: THE SHARE is A by B, THE PASS C")
    private static void ruleClause() {
        due("each in its place", rule(cast("rule 12 34 56")), 1234056);
        due("the last one counts", rule(cast("rule 12 34 56;rule 1 2 3")), 102003);
    }

    @Says(promise = 0, value = "V, K, A, B 1 to 99, C 0 to 100")
    private static void ruleBounds() {
        due("least", rule(cast("rule 1 1 0")), 101000);
        due("greatest", rule(cast("rule 99 99 100")), 9999100);
        dueText("rule 0 1 1", 5);
        dueText("rule 100 1 1", 5);
        dueText("rule 1 0 1", 7);
        dueText("rule 1 100 1", 7);
        dueText("rule 1 1 101", 9);
        dueText("rule 1 1 999", 9);
        dueText("section 1 1;riser 0 0 1", 20);
        dueText("section 1 1;riser 0 1 100", 22);
    }

    @Says(promise = 0, value = "small letters a .. z")
    private static void smallLetters() {
        dueText("Casting", 0);
        dueText("castinG", 0);
        dueText("casting" + (char) ('a' - 1), 7);
        dueText("casting" + (char) ('z' + 1), 7);
        dueText("castinga", 0);
        dueText("castingz", 0);
        dueText("casting" + (char) 228, 7);
    }

    @Says(promise = 0, value = "numbers of 1 to 3 digits")
    private static void digits() {
        dueText("section 1 9", NONE);
        dueText("section 01 09", NONE);
        dueText("section 001 099", NONE);
        dueText("rule 1 1 100", NONE);
        dueText("rule 000 1 1", 5);
        dueText("section " + (char) ('0' - 1) + " 1", 8);
        dueText("section " + (char) ('9' + 1) + " 1", 8);
        dueText("section -1 1", 8);
        dueText("section +1 1", 8);
    }

    // Where tokens part by themselves, none is needed; sign 32 alone is a blank.
    @Says(promise = 0, value = "blanks between")
    private static void blanks() {
        dueText("section   1   1   ;   casting", NONE);
        dueText("  casting  ", NONE);
        dueText("section1 1;casting", NONE);
        dueText("section 11", 10);
        dueText("sec tion 1 1", 0);
        dueText("casting\t", 7);
        dueText("casting\n", 7);
        dueText("casting" + (char) 0, 7);
        dueText("casting" + (char) 160, 7);
    }

    @Says(promise = 0, value = "what earlier texts told stays as it was told.")
    private static void earlierTexts() {
        FeedCheck x = cast("section 3 4;section 5 6;joint 0 1;riser 0 7 8;chill 1 2;rule 9 8 7", "section 1 2");
        due("sections", x.count(0), 3);
        due("the first", x.section(0, 0) * 10 + x.section(0, 1), 34);
        due("joints", x.section(0, 3), 2);
        due("rule", rule(x), 908007);
        due("risers and chills", fit(x), "chills 0 2 0 risers 0/7/8");
        x.take(0);
        x.chill(1, 9);
        cast(x, "joint 2 1");
        due("as told, not as done", fit(x), "chills 0 2 0 risers 0/7/8");
        x.put(0, 1, 1);
        dueText(x, repeat("riser 1 1 1", ";", 5), NONE);
        dueText(x, repeat("riser 1 1 1", ";", 6), 60);
    }

    // ---- faults

    @Says(promise = 0, value = "A FAULT is at the first TOKEN (a row of small letters, a row of digits, any other letter) that cannot stand there")
    private static void firstToken() {
        dueText("casting; castings;castings", 9);
        dueText("section 12x 1", 10);
        dueText("section x12 1", 8);
        dueText("section 1 1;!!", 12);
        dueText("section 1 1 !", 12);
        dueText("section !! 1", 8);
        dueText("section ; 1", 8);
        dueText("1", 0);
        dueText(" " + (char) 255, 1);
    }

    @Says(promise = 0, value = "a number out of its bounds")
    private static void outOfBounds() {
        dueText("section 0 1", 8);
        dueText("section 1 100", 10);
        dueText("section 1 1;joint 1 0", 18);
        dueText("section 1 1;chill 0 10", 20);
        dueText("rule 1 1 101", 9);
    }

    @Says(promise = 0, value = "of more digits")
    private static void moreDigits() {
        dueText("section 0001 1", 8);
        dueText("section 1 0009", 10);
        dueText("rule 1 1 0000", 9);
        dueText("section 1 1;chill 0000 1", 18);
        dueText("section 4294967297 1", 8);
        dueText("section " + repeat("0", "", 180) + "1 1", 8);
    }

    @Says(promise = 0, value = "J like I, also")
    private static void likeEnds() {
        dueText("section 1 1;section 1 1;joint 1 1", 32);
        dueText("section 1 1;section 1 1;joint 1 01", 32);
        dueText("section 1 1;section 1 1;joint 1 1;castings", 32);
    }

    @Says(promise = 0, value = "or at the end, if it comes too soon.")
    private static void endTooSoon() {
        dueText("", 0);
        dueText("   ", 3);
        dueText("section", 7);
        dueText("section 1", 9);
        dueText("section 1  ", 11);
        dueText("section 1 1;", 12);
        dueText("section 1 1; ", 13);
        dueText("section 1 1;riser 0 1", 21);
        dueText("rule 1 1", 8);
        dueText(repeat(" ", "", 200), 200);
    }

    @Says(promise = 0, value = "CLAUSES are done in their order.")
    private static void inOrder() {
        FeedCheck x = cast("section 1 2;section 3 4;riser 1 5 6;riser 0 7 8;chill 0 3;chill 0 4");
        due("sections", x.section(0, 0) * 10 + x.section(1, 0), 13);
        due("risers, chills", fit(x), "chills 4 0 risers 1/5/6 0/7/8");
        dueText("chill 0 1;section 1 1", 6);
        dueText("section 1 1;casting;chill 0 1", 26);
    }

    @Says(promise = 0, value = "Behind them all is as told")
    private static void asTold() {
        FeedCheck x = cast("section 9 9;section 8 8;riser 0 3 4;chill 0 2");
        x.put(1, 5, 6);
        x.take(0);
        x.chill(0, 7);
        x.move(0, 1, 3);
        cast(x, "chill 1 1;riser 1 2 2");
        due("risers, chills", fit(x), "chills 2 1 risers 0/3/4 1/2/2");
    }

    @Says(promise = 0, value = "nothing is kept or can be undone")
    private static void nothingKept() {
        FeedCheck x = cast("section 9 9");
        x.put(0, 1, 1);
        x.chill(0, 1);
        x.keep(0);
        x.keep(1);
        cast(x, "rule 1 1 1");
        due("undoable", x.count(11), 0);
        due("undo", x.undo(), NOT);
        due("back(0)", x.back(0), NOT);
        due("back(1)", x.back(1), NOT);
    }

    @Says(promise = 0, value = "BINS are all missing.")
    private static void binsMissing() {
        FeedCheck x = new FeedCheck();
        x.bin(0, 0);
        x.bin(1, 1);
        x.bin(2, 0);
        x.addWhole(2, 5);
        cast(x, "casting");
        for (int bin = 0; bin < 3; bin++) {
            due("bin " + bin, x.sum(bin), NULL);
        }
        due("things", x.count(10), 0);
    }

    // ---- tops, basins, passes

    @Says(promise = 0, value = "A TOP: a SECTION with no NEIGHBOUR that is LATER.")
    private static void tops() {
        due("no sections", new FeedCheck().count(3), 0);
        due("no neighbours", cast("section 1 99;section 99 1").count(3), 3);
        due("a sooner neighbour", cast("section 1 99;section 99 1;joint 0 1").count(3), 2);
        due("neighbours of like time", cast(TEN, "joint 0 1;joint 1 2;joint 3 2").count(3), 1009);
        due("a later one that is no neighbour", cast("section 1 9;section 1 99;section 9 1;joint 0 1").count(3), 5);
    }

    @Says(promise = 0, value = "CLIMB of a SECTION: from it to its LATEST NEIGHBOUR, as long as that is LATER, and so on, up to a TOP: that of its BASIN")
    private static void climb() {
        due("a top stays", cast("section 1 1").section(0, 7), 0);
        // From 0 both 1 and 2 go up; the latest is 2, though 1 would lead to the higher top 3.
        FeedCheck x = cast("section 1 9;section 2 9;section 3 9;section 9 9;joint 0 1;joint 0 2;joint 1 3");
        due("by the latest neighbour", x.section(0, 7), 2);
        due("1 goes on", x.section(1, 7), 3);
        FeedCheck like = cast("section 1 9;section 5 5;section 5 5;joint 0 2;joint 0 1");
        due("of like neighbours the lesser number is latest", like.section(0, 7), 1);
        FeedCheck same = cast("section 5 5;section 5 5;joint 0 1");
        due("a like neighbour of the lesser number is later", same.section(1, 7), 0);
        due("and the other is not", same.section(0, 7), 0);
    }

    @Says(promise = 0, value = "STEPS: how many.")
    private static void steps() {
        FeedCheck x = cast(TEN, "joint 0 1;joint 1 2;joint 2 3;joint 3 4;joint 4 5;joint 5 6;joint 6 7;joint 7 8;joint 8 9");
        due("none from a top", x.section(0, 8), 0);
        due("one", x.section(1, 8), 1);
        due("nine at most", x.section(9, 8), 9);
        due("to the one top", x.section(9, 7), 0);
        cast(x, "joint 9 0");
        due("by the steepest way", x.section(9, 8), 1);
    }

    @Says(promise = 0, value = "A PASS of two BASINS: of all JOINTS between them the SOONER one of both ends each, and of these the LATEST (a SECTION).")
    private static void passes() {
        due("of one joint the sooner end", cast("section 9 1;section 2 1;section 3 1;section 8 1;joint 0 1;joint 1 2;joint 2 3").pass(0, 3), 1);
        FeedCheck two = cast("section 90 10;section 10 10;section 20 10;section 80 10;joint 0 1;joint 1 3;joint 0 2;joint 2 3");
        due("of two joints the latest", two.pass(0, 3), 2);
        FeedCheck like = cast("section 90 10;section 10 10;section 10 10;section 80 10;joint 0 1;joint 1 3;joint 0 2;joint 2 3");
        due("of like ones the lesser number", like.pass(0, 3), 1);
        // Between basins 0 and 3 of like times the joint is that of 1 and 2, which are of like time too.
        FeedCheck ends = cast("section 9 1;section 2 1;section 2 1;section 9 1;joint 0 1;joint 1 2;joint 2 3");
        due("of like ends the greater number is sooner", ends.pass(0, 3), 2);
    }

    @Says(promise = 0, value = "DROWNED: a TOP is DROWNED in another one, if it is SOONER")
    private static void drownedSooner() {
        FeedCheck x = cast(RIDGE + "rule 6 5 0");
        due("the soonest", x.top(0, 1), 2);
        due("the latest never", x.top(4, 1), NONE);
        FeedCheck like = cast("section 10 10;section 5 10;section 10 10;joint 0 1;joint 1 2");
        due("of like ones the greater number", like.top(2, 1), 0);
        due("and not the lesser", like.top(0, 1), NONE);
    }

    @Says(promise = 0, value = "there is a PASS")
    private static void drownedPass() {
        due("no joint at all", cast("section 20 10;section 10 10;rule 6 5 0").top(1, 1), NONE);
        due("no pass to the latest one", cast(RIDGE + "rule 6 5 0").top(0, 1), 2);
    }

    @Says(promise = 0, value = "and the PASS's TIME is c hundredths at least of the TOP's own TIME")
    private static void drownedPart() {
        int[][] rows = {{0, 2, 4}, {33, 2, 4}, {34, 2, NONE}, {50, 2, NONE}, {51, NONE, NONE}, {100, NONE, NONE}};
        for (int[] row : rows) {
            FeedCheck x = cast(RIDGE + "rule 6 5 " + row[0]);
            due("0, rule " + row[0], x.top(0, 1), row[1]);
            due("2, rule " + row[0], x.top(2, 1), row[2]);
        }
        FeedCheck chilled = cast(RIDGE + "rule 6 5 50");
        chilled.chill(1, 1);
        due("a chilled pass is too low", chilled.top(0, 1), NONE);
    }

    @Says(promise = 0, value = "in the LATEST of those")
    private static void drownedLatest() {
        String fork = "section 20 10;section 10 10;section 30 10;section ";
        String joints = " 10;section 40 10;joint 0 1;joint 1 2;joint 0 3;joint 3 4";
        due("both passes will do", cast(fork + "10" + joints).top(0, 1), 4);
        due("that to the latest is too low", cast(fork + "9" + joints).top(0, 1), 2);
        FeedCheck like = cast("section 2 1;section 1 1;section 3 1;section 1 1;section 3 1;joint 0 1;joint 1 2;joint 0 3;joint 3 4");
        due("of like ones the lesser number is latest", like.top(0, 1), 2);
    }

    @Says(promise = 0, value = "HEAD of a TOP: itself, if it is not DROWNED, else the HEAD of the one in which it is.")
    private static void heads() {
        FeedCheck chain = cast(RIDGE + "rule 6 5 33");
        due("through two", chain.top(0, 2), 4);
        due("through one", chain.top(2, 2), 4);
        due("itself", chain.top(4, 2), 4);
        FeedCheck free = cast(RIDGE + "rule 6 5 51");
        due("none is drowned", free.top(0, 2) * 100 + free.top(2, 2) * 10 + free.top(4, 2), 24);
    }

    // ---- feeding

    @Says(promise = 0, value = "FED is a TOP: if a RISER on some SECTION of its BASIN")
    private static void fedInBasin() {
        String basin = "section 20 10;section 9 9;section 8 9;section 30 10;joint 0 1;joint 1 2;";
        due("on the top", cast(basin + "riser 0 24 10").top(0, 3), 1);
        due("on the farthest section of the basin", cast(basin + "riser 2 24 10").top(0, 3), 1);
        due("on another basin", cast(basin + "riser 3 99 1").top(0, 3), 0);
        due("no riser", cast(basin + "rule 6 5 0").top(0, 3), 0);
    }

    @Says(promise = 0, value = "or of that of a TOP of the same HEAD")
    private static void fedByHead() {
        String risers = RIDGE + "riser 1 99 1;rule 6 5 ";
        // 1 is of the basin of 2.
        due("all of one head", cast(risers + "33").count(5), 21);
        due("0 and 2 of one head", cast(risers + "50").count(5), 5);
        due("each of its own", cast(risers + "51").count(5), 4);
        FeedCheck brothers = cast("section 2 1;section 1 1;section 4 1;section 1 1;section 2 1;joint 0 1;joint 1 2;joint 2 3;joint 3 4;riser 0 99 1");
        due("two that are drowned in a third", brothers.count(5), 21);
    }

    @Says(promise = 0, value = "outlasts: TIME of the RISER times b is TIME of the TOP times a at least.")
    private static void outlasts() {
        due("just", cast("section 20 10;riser 0 24 10").top(0, 3), 1);
        due("by other numbers", cast("section 20 10;riser 0 12 5").top(0, 3), 1);
        due("not quite", cast("section 20 10;riser 0 95 40").top(0, 3), 0);
        FeedCheck x = cast("section 20 10;riser 0 12 10");
        due("too small", x.top(0, 3), 0);
        x.chill(0, 1);
        due("the top is chilled: just", x.top(0, 3), 1);
    }

    @Says(promise = 0, value = "FEEDER: of those RISERS the one of the least number; none.")
    private static void feeders() {
        FeedCheck x = cast("section 20 10;section 1 1;riser 1 99 1;riser 0 1 1;riser 0 24 10;riser 0 99 1");
        due("the least that outlasts and is there", x.top(0, 4), 2);
        x.take(2);
        due("the next", x.top(0, 4), 2);
        x.take(2);
        due("none outlasts", x.top(0, 4), NONE);
        due("no risers", cast("section 1 1").top(0, 4), NONE);
    }

    @Says(promise = 0, value = "STARVED by a RISER: TOPS that are FED, and would not be, were it not there (SECTIONS, bits).")
    private static void starved() {
        FeedCheck x = cast(RIDGE + "riser 0 99 1;rule 6 5 33");
        due("all of the head", x.riser(0, 3), 21);
        x.put(4, 3, 1);
        due("a second one feeds 0 alone", x.riser(0, 3), 20);
        due("it starves none", x.riser(1, 3), 0);
        x.put(2, 99, 1);
        due("another for all", x.riser(0, 3), 0);
        due("one that feeds none", cast("section 9 1;riser 0 1 9").riser(0, 3), 0);
    }

    @Says(promise = 0, value = "NEED of a TOP with a SKIN k: the least VOLUME (1 .. 999) by which a RISER of SKIN k outlasts it; none.")
    private static void needs() {
        due("the least", cast("section 1 99;chill 0 9;rule 1 99 0").need(0, 1), 1);
        due("just 999", cast("section 27 1;rule 1 1 0").need(0, 37), 999);
        due("a little above 999", cast("section 28 1;rule 99 98 0").need(0, 36), NONE);
        due("1000 is none", cast("section 25 1;rule 1 1 0").need(0, 40), NONE);
        due("rounded up", cast("section 1 1;rule 1 1 0;chill 0 1").need(0, 12), 2);
        due("not where it is whole", cast("section 1 1;rule 1 1 0;chill 0 1").need(0, 11), 1);
    }

    @Says(promise = 0, value = "ORDER: SECTIONS from the SOONEST to the LATEST.")
    private static void order() {
        FeedCheck x = cast("section 2 1;section 1 2;section 2 1;section 1 1");
        due("1, 3, 2, 0", x.order(0) * 1000 + x.order(1) * 100 + x.order(2) * 10 + x.order(3), 1320);
    }

    @Says(promise = 0, value = "CHILL of n: the SECTION on which n CHILLS more (9 at most) leave the fewest TOPS")
    private static void chillOf() {
        // Tops 1 (60/10) and 2 (80/10) at 0 (9/9): 9 more bring 1 to 60/100 and 2 to 80/100, below 0.
        FeedCheck x = cast("section 9 9;section 60 10;section 80 10;joint 0 1;joint 0 2");
        due("the one", x.best(9, 0), 1);
        due("its tops", x.best(9, 1), 1);
        // 0 goes from 8 to 9 and no more: 90/99 is above the 45/50 of 1, what 17 would not be.
        FeedCheck full = cast("section 90 9;section 45 50;section 99 1;joint 0 1;joint 1 2;chill 0 8");
        due("9 at most", full.best(9, 1), 2);
        // 0 goes from 89/89 to 89/99, below the 19/20 of 1: the ninth chill counts yet.
        FeedCheck ninth = cast("section 89 9;section 19 20;section 99 1;joint 0 1;joint 1 2;chill 0 8");
        due("9 just", ninth.best(9, 1), 1);
        due("9 more than 9", cast("section 90 9;chill 0 9").best(9, 0), 0);
    }

    @Says(promise = 0, value = "of like ones the least")
    private static void chillOfLike() {
        due("all alike", cast("section 1 1;section 1 1;section 1 1").best(1, 0), 0);
        FeedCheck x = cast("section 9 9;section 60 10;section 60 10;joint 0 1;joint 0 2");
        due("1 and 2 alike", x.best(9, 0), 1);
    }

    @Says(promise = 0, value = "none (no SECTIONS).")
    private static void chillOfNone() {
        due("at first", new FeedCheck().best(1, 0), NONE);
        due("behind casting", cast("section 1 1;casting").best(9, 0), NONE);
        due("one section", cast("section 1 1").best(9, 0), 0);
    }

    @Says(promise = 0, value = "FORETOLD (nothing changes).")
    private static void foretold() {
        FeedCheck x = busy();
        x.order(0);
        x.pass(0, 2);
        x.need(0, 5);
        x.best(9, 0);
        x.best(9, 1);
        x.least(0);
        x.least(1);
        x.top(0, 3);
        x.riser(0, 3);
        x.count(6);
        due("all behind it", picture(x), picture(busy()));
    }

    @Says(promise = 0, value = "LEAST: the fewest RISERS, those that there are, that feed as many TOPS as all do")
    private static void leastRisers() {
        due("no risers", cast("section 1 1").least(0), 0);
        due("none feeds any", cast("section 9 1;riser 0 1 9").least(0), 0);
        due("all are needed", cast("section 1 1;section 1 1;riser 0 9 1;riser 1 9 1").least(0), 3);
        FeedCheck x = cast(RIDGE + "riser 0 4 1;riser 2 5 1;rule 6 5 33");
        due("the one for all three", x.least(0), 2);
        due("how many", x.least(1), 1);
        due("not more than all feed", cast("section 1 1;section 9 1;riser 0 9 1;riser 1 1 1").least(0), 1);
    }

    @Says(promise = 0, value = "a set, the first by bits of those of the fewest.")
    private static void leastSet() {
        due("the first of six", cast("section 1 1;" + repeat("riser 0 9 1", ";", 6)).least(0), 1);
        due("the last of six", cast("section 1 1;" + repeat("riser 0 1 1", ";", 5) + ";riser 0 9 1").least(0), 32);
        due("0 and 1 ahead of 5, 10, 12", cast("section 1 1;section 1 1;riser 0 9 1;riser 1 9 1;riser 1 9 1;riser 0 9 1").least(0), 3);
        String six = repeat("section 1 1", ";", 6) + ";riser 5 9 1;riser 4 9 1;riser 3 9 1;riser 2 9 1;riser 1 9 1;riser 0 9 1";
        due("all six", cast(six).least(0), 63);
    }

    @Says(promise = 0, value = "WHOLE: all TOPS are FED.")
    private static void whole() {
        due("no tops", new FeedCheck().count(6), 1);
        due("none fed", cast("section 1 1").count(6), 0);
        due("one of two fed", cast("section 1 1;section 1 1;riser 1 9 1").count(6), 0);
        due("both fed", cast("section 1 1;section 1 1;riser 1 9 1;riser 0 9 1").count(6), 1);
    }

    // ---- bins

    @Says(promise = 0, value = "BINS 0 .. 2 are missing (at first)")
    private static void binsAtFirst() {
        FeedCheck x = new FeedCheck();
        for (int bin = 0; bin < 3; bin++) {
            due("bin " + bin, x.drop(bin), NULL);
        }
        due("bin 3", x.drop(3), UNKNOWN);
        due("bin -1", x.drop(-1), UNKNOWN);
    }

    private static FeedCheck withBin(int kind, int things) {
        FeedCheck x = new FeedCheck();
        x.bin(0, kind);
        for (int i = 1; i <= things; i++) {
            due("thing " + i, kind == 0 ? x.addWhole(0, i) : x.addPair(0, 0, i), i);
        }
        return x;
    }

    @Says(promise = 0, value = "or have 0 to 8 things")
    private static void binSizes() {
        due("none", withBin(0, 0).count(10), 0);
        FeedCheck x = withBin(0, 8);
        due("a ninth", x.addWhole(0, 9), ROOM);
        due("eight", x.count(10), 8);
        due("the last", x.find(0, 2), 20008);
    }

    @Says(promise = 0, value = "each BIN of one kind")
    private static void oneKind() {
        due("a pair to wholes", withBin(0, 0).addPair(0, 1, 1), KIND);
        due("a whole to pairs", withBin(1, 0).addWhole(0, 1), KIND);
    }

    @Says(promise = 0, value = "WHOLES (-999 .. 999)")
    private static void wholes() {
        FeedCheck x = withBin(0, 0);
        due("-999", x.addWhole(0, -999), 1);
        due("999", x.addWhole(0, 999), 2);
        due("-1000", x.addWhole(0, -1000), OUTSIDE);
        due("1000", x.addWhole(0, 1000), OUTSIDE);
    }

    @Says(promise = 0, value = "PAIRS (of two numbers 0 .. 99")
    private static void pairs() {
        FeedCheck x = withBin(1, 0);
        due("0 0", x.addPair(0, 0, 0), 1);
        due("99 99", x.addPair(0, 99, 99), 2);
        due("-1 0", x.addPair(0, -1, 0), OUTSIDE);
        due("0 -1", x.addPair(0, 0, -1), OUTSIDE);
        due("100 0", x.addPair(0, 100, 0), OUTSIDE);
        due("0 100", x.addPair(0, 0, 100), OUTSIDE);
    }

    @Says(promise = 0, value = "of two PAIRS the one of the lesser first number, of like ones of the lesser second one, is ahead)")
    private static void pairOrder() {
        FeedCheck x = withBin(1, 0);
        x.addPair(0, 1, 0);
        x.addPair(0, 0, 99);
        x.addPair(0, 1, 99);
        x.addPair(0, 0, 98);
        due("the greatest", x.find(0, 0), 199);
        due("the least", x.find(0, 1), 98);
        x.sort(0);
        due("sorted, from the last", things(x, 0), "199 100 99 98 -13 -12");
    }

    @Says(promise = 0, value = "What the machine finds is answered as NULL -11 (the BIN is missing)")
    private static void nullFound() {
        due("the constant", FeedCheck.NULL, -11);
        due("never made", new FeedCheck().pop(2), -11);
        FeedCheck x = withBin(0, 1);
        x.drop(0);
        due("dropped", x.pop(0), -11);
    }

    @Says(promise = 0, value = "KIND -12 (it is of the other kind)")
    private static void kindFound() {
        due("the constant", FeedCheck.KIND, -12);
        due("a pair", withBin(0, 0).addPair(0, 0, 0), -12);
        due("a whole", withBin(1, 0).addWhole(0, 0), -12);
    }

    @Says(promise = 0, value = "EMPTY -13 (it has none)")
    private static void emptyFound() {
        due("the constant", FeedCheck.EMPTY, -13);
        due("pop", withBin(0, 0).pop(0), -13);
        FeedCheck x = withBin(1, 1);
        x.pop(0);
        due("find behind the last pop", x.find(0, 0), -13);
    }

    @Says(promise = 0, value = "ROOM -14 (there would be more than 8)")
    private static void roomFound() {
        due("the constant", FeedCheck.ROOM, -14);
        due("a ninth", withBin(0, 8).addWhole(0, 0), -14);
        FeedCheck x = withBin(0, 4);
        x.bin(1, 0);
        due("4", x.pour(0, 1), 4);
        due("8", x.pour(0, 1), 8);
        due("12", x.pour(0, 1), -14);
    }

    @Says(promise = 0, value = "of several the first in this order")
    private static void machineOrder() {
        FeedCheck x = withBin(0, 8);
        x.bin(1, 1);
        for (int i = 1; i <= 8; i++) {
            x.addPair(1, i, i);
        }
        due("KIND ahead of ROOM, a whole", x.addWhole(1, 0), KIND);
        due("KIND ahead of ROOM, a pair", x.addPair(0, 0, 0), KIND);
        due("KIND ahead of ROOM, poured", x.pour(0, 1), KIND);
        due("NULL ahead of KIND, poured", x.pour(1, 2), NULL);
        due("NULL ahead of ROOM, poured", x.pour(2, 0), NULL);
        // A bin that held wholes and is missing now: it is of no kind, and has nothing.
        x.drop(0);
        due("NULL ahead of KIND", x.addPair(0, 0, 0), NULL);
        due("NULL ahead of EMPTY", x.find(0, 0), NULL);
    }

    @Says(promise = 0, value = "it changes nothing.")
    private static void machineChangesNothing() {
        refused("addWhole(2, 0)", x -> x.addWhole(2, 0), NULL);
        refused("addWhole(1, 0)", x -> x.addWhole(1, 0), KIND);
        refused(() -> withBin(0, 0), "pop(0)", x -> x.pop(0), EMPTY);
        refused(() -> withBin(0, 8), "addWhole(0, 9)", x -> x.addWhole(0, 9), ROOM);
    }

    @Says(promise = 0, value = "A WHOLE v is told as v and 20000")
    private static void wholeTold() {
        FeedCheck x = withBin(0, 0);
        x.addWhole(0, -999);
        x.addWhole(0, 0);
        x.addWhole(0, 999);
        due("from the last", things(x, 0), "20999 20000 19001 -13 1");
    }

    @Says(promise = 0, value = "a PAIR as 100 times the first, and the second.")
    private static void pairTold() {
        FeedCheck x = withBin(1, 0);
        x.addPair(0, 0, 0);
        x.addPair(0, 0, 99);
        x.addPair(0, 99, 0);
        x.addPair(0, 99, 99);
        due("from the last", things(x, 0), "9999 9900 99 0 -13 -12");
    }

    // ---- refusals

    @Says(promise = 0, value = "Refused, and nothing changes")
    private static void refusedChangesNothing() {
        due("the constants", FeedCheck.NONE * 10000 + FeedCheck.UNKNOWN * 1000 + FeedCheck.OUTSIDE * 100 + FeedCheck.NOT * 10 + FeedCheck.FULL, -12345);
        refused("put(3, 1, 1)", x -> x.put(3, 1, 1), UNKNOWN);
        refused("chill(0, 10)", x -> x.chill(0, 10), OUTSIDE);
        refused("chill(0, 1)", x -> x.chill(0, 1), NOT);
        refused(() -> cast(SIX), "put(0, 1, 1)", x -> x.put(0, 1, 1), FULL);
    }

    @Says(promise = 0, value = "UNKNOWN (no such SECTION, RISER, BIN")
    private static void unknown() {
        FeedCheck x = busy();
        due("section 3", x.section(3, 0), UNKNOWN);
        due("riser 2", x.riser(2, 0), UNKNOWN);
        due("bin 3", x.sum(3), UNKNOWN);
        due("section -1", x.section(-1, 0), UNKNOWN);
        due("riser -1", x.riser(-1, 0), UNKNOWN);
        due("bin -1", x.sum(-1), UNKNOWN);
    }

    @Says(promise = 0, value = "a SECTION twice, where two are asked)")
    private static void twice() {
        refused("move(1, 1, 1)", x -> x.move(1, 1, 1), UNKNOWN);
        refused("pass(1, 1)", x -> x.pass(1, 1), UNKNOWN);
    }

    @Says(promise = 0, value = "OUTSIDE (another number is not as told)")
    private static void outside() {
        FeedCheck x = busy();
        for (int far : FAR) {
            due("write(" + far + ")", x.write(far), OUTSIDE);
            due("section(0, " + far + ")", x.section(0, far), OUTSIDE);
            due("move(1, 0, " + far + ")", x.move(1, 0, far), OUTSIDE);
            due("best(" + far + ", 0)", x.best(far, 0), OUTSIDE);
            due("addWhole(0, " + far + ")", x.addWhole(0, far), OUTSIDE);
        }
    }

    @Says(promise = 0, value = "NOT (not now: as told)")
    private static void notNow() {
        due("undo of none", new FeedCheck().undo(), NOT);
        due("back to none", new FeedCheck().back(0), NOT);
        due("no text", new FeedCheck().casting(), NOT);
        due("no top", busy().need(1, 1), NOT);
    }

    @Says(promise = 0, value = "FULL")
    private static void full() {
        due("letters", type(new FeedCheck(), repeat("a", "", 200)).write('a'), FULL);
        due("risers", cast(SIX).put(0, 1, 1), FULL);
    }

    @Says(promise = 0, value = "then what the machine finds: the first of these that fits.")
    private static void firstThatFits() {
        FeedCheck six = cast(SIX);
        due("UNKNOWN ahead of OUTSIDE and FULL", six.put(1, 0, 0), UNKNOWN);
        due("OUTSIDE ahead of FULL", six.put(0, 0, 1), OUTSIDE);
        FeedCheck x = busy();
        due("UNKNOWN ahead of OUTSIDE", x.section(3, 9), UNKNOWN);
        due("UNKNOWN ahead of OUTSIDE and NOT, top", x.top(3, 5), UNKNOWN);
        due("OUTSIDE ahead of NOT, top", x.top(1, 5), OUTSIDE);
        due("OUTSIDE ahead of NOT, need", x.need(1, 0), OUTSIDE);
        due("UNKNOWN ahead of OUTSIDE, move", x.move(0, 0, 10), UNKNOWN);
        due("OUTSIDE ahead of NOT, move", x.move(0, 1, 10), OUTSIDE);
        due("UNKNOWN ahead of NULL", x.pour(2, 2), UNKNOWN);
        due("OUTSIDE ahead of NULL", x.addWhole(2, 1000), OUTSIDE);
        due("OUTSIDE ahead of KIND", x.addWhole(1, 1000), OUTSIDE);
        due("OUTSIDE ahead of NULL, find", x.find(2, 3), OUTSIDE);
    }

    @Says(promise = 0, value = "An object is used for at most 512 calls after it has been made")
    private static void calls() {
        FeedCheck x = new FeedCheck();
        for (int i = 1; i <= 200; i++) {
            due("write", x.write(' '), i);
        }
        for (int i = 201; i <= 511; i++) {
            due("call " + i, x.write(' '), FULL);
        }
        due("the 512th", x.erase(), 200);
    }
}
