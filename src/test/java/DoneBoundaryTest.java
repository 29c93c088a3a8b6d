/** Promises 9 to 15, what is done: each sentence that names a bound, an edge or a refusal has a test of its own. */
public final class DoneBoundaryTest extends Rig {
    private static final String TEN = repeat("section 9 9", ";", 10);
    private static final String THREE = "section 9 9;section 8 8;section 7 7";

    public static void main(String[] args) throws Exception {
        runSentences(DoneBoundaryTest.class, 9, 15);
    }

    private static FeedCheck sixRisers() {
        FeedCheck x = cast("section 1 1;riser 0 1 1;riser 0 1 2;riser 0 1 3;riser 0 1 4");
        x.put(0, 1, 5);
        x.put(0, 1, 6);
        return x;
    }

    /** Ten changes, of which the last eight can be undone: 1 to 9 chills in turn on one section, then one on another. */
    private static FeedCheck tenChanges() {
        FeedCheck x = cast(THREE + ";riser 0 5 5");
        for (int n = 1; n <= 9; n++) {
            x.chill(1, n);
        }
        x.chill(2, 1);
        return x;
    }

    // ---- 9 put

    @Says(promise = 9, value = "A RISER more on a SECTION: its number.")
    private static void put() {
        FeedCheck x = cast(TEN);
        due("the first", x.put(9, 1, 99), 0);
        due("the second, on the same", x.put(9, 99, 1), 1);
        for (int r = 2; r < 6; r++) {
            due("put", x.put(0, 50, 50), r);
        }
        due("all", fit(x), "chills 0 0 0 0 0 0 0 0 0 0 risers 9/1/99 9/99/1 0/50/50 0/50/50 0/50/50 0/50/50");
        x.take(0);
        due("behind a take the number is free", x.put(1, 2, 3), 5);
    }

    @Says(promise = 9, value = "UNKNOWN")
    private static void putUnknown() {
        due("none yet", new FeedCheck().put(0, 1, 1), UNKNOWN);
        due("an eleventh", cast(TEN).put(10, 1, 1), UNKNOWN);
        refused("put(3, 1, 1)", x -> x.put(3, 1, 1), UNKNOWN);
        refused("put(-1, 1, 1)", x -> x.put(-1, 1, 1), UNKNOWN);
        for (int far : FAR) {
            due("put(" + far + ", 0, 0)", busy().put(far, 0, 0), UNKNOWN);
        }
    }

    @Says(promise = 9, value = "OUTSIDE: VOLUME, SKIN")
    private static void putOutside() {
        refused("put(0, 0, 1)", x -> x.put(0, 0, 1), OUTSIDE);
        refused("put(0, 100, 1)", x -> x.put(0, 100, 1), OUTSIDE);
        refused("put(0, 1, 0)", x -> x.put(0, 1, 0), OUTSIDE);
        refused("put(0, 1, 100)", x -> x.put(0, 1, 100), OUTSIDE);
        for (int far : FAR) {
            due("put(0, " + far + ", 1)", busy().put(0, far, 1), OUTSIDE);
            due("put(0, 1, " + far + ")", busy().put(0, 1, far), OUTSIDE);
        }
        due("volume ahead of FULL", sixRisers().put(0, 0, 1), OUTSIDE);
        due("skin ahead of FULL", sixRisers().put(0, 1, 100), OUTSIDE);
    }

    @Says(promise = 9, value = "FULL: 6.")
    private static void putFull() {
        refused(DoneBoundaryTest::sixRisers, "a seventh", x -> x.put(0, 1, 1), FULL);
        FeedCheck x = sixRisers();
        x.take(5);
        due("there is room again", x.put(0, 1, 1), 5);
        due("and no more", x.put(0, 1, 1), FULL);
    }

    // ---- 10 take

    @Says(promise = 10, value = "A RISER goes (later ones have one number less): how many are left.")
    private static void take() {
        FeedCheck x = sixRisers();
        due("one of the middle", x.take(2), 5);
        due("left", fit(x), "chills 0 risers 0/1/1 0/1/2 0/1/4 0/1/5 0/1/6");
        due("the last", x.take(4), 4);
        due("left", fit(x), "chills 0 risers 0/1/1 0/1/2 0/1/4 0/1/5");
        due("the first", x.take(0), 3);
        due("left", fit(x), "chills 0 risers 0/1/2 0/1/4 0/1/5");
        x.take(0);
        x.take(0);
        due("the only one", x.take(0), 0);
        due("none", x.count(2), 0);
    }

    @Says(promise = 10, value = "UNKNOWN.")
    private static void takeUnknown() {
        due("none yet", new FeedCheck().take(0), UNKNOWN);
        due("a seventh", sixRisers().take(6), UNKNOWN);
        refused("take(2)", x -> x.take(2), UNKNOWN);
        refused("take(-1)", x -> x.take(-1), UNKNOWN);
        for (int far : FAR) {
            due("take(" + far + ")", sixRisers().take(far), UNKNOWN);
        }
    }

    // ---- 11 move

    @Says(promise = 11, value = "n CHILLS go from one SECTION to another one: how many that has.")
    private static void move() {
        FeedCheck x = cast(THREE + ";chill 0 9;chill 1 4");
        due("just up to 9", x.move(0, 1, 5), 9);
        due("left", fit(x), "chills 4 9 0 risers");
        due("all 9", x.move(1, 2, 9), 9);
        due("left", fit(x), "chills 4 0 9 risers");
        due("one", x.move(0, 1, 1), 1);
        due("left", fit(x), "chills 3 1 9 risers");
        FeedCheck ten = cast(TEN, "chill 9 1");
        due("from the tenth", ten.move(9, 0, 1), 1);
    }

    @Says(promise = 11, value = "UNKNOWN")
    private static void moveUnknown() {
        due("none yet", new FeedCheck().move(0, 1, 1), UNKNOWN);
        refused("move(1, 3, 1)", x -> x.move(1, 3, 1), UNKNOWN);
        refused("move(3, 1, 1)", x -> x.move(3, 1, 1), UNKNOWN);
        refused("move(1, -1, 1)", x -> x.move(1, -1, 1), UNKNOWN);
        refused("move(-1, 1, 1)", x -> x.move(-1, 1, 1), UNKNOWN);
        refused("move(1, 1, 1)", x -> x.move(1, 1, 1), UNKNOWN);
        for (int far : FAR) {
            due("move(" + far + ", 1, 0)", busy().move(far, 1, 0), UNKNOWN);
            due("move(1, " + far + ", 0)", busy().move(1, far, 0), UNKNOWN);
        }
    }

    @Says(promise = 11, value = "OUTSIDE: n 1 .. 9")
    private static void moveOutside() {
        refused("move(1, 0, 0)", x -> x.move(1, 0, 0), OUTSIDE);
        refused("move(1, 0, 10)", x -> x.move(1, 0, 10), OUTSIDE);
        refused("move(1, 0, -1)", x -> x.move(1, 0, -1), OUTSIDE);
        for (int far : FAR) {
            due("move(1, 0, " + far + ")", busy().move(1, 0, far), OUTSIDE);
        }
    }

    @Says(promise = 11, value = "NOT: the one has not so many")
    private static void moveTooFew() {
        refused("2 of 1", x -> x.move(1, 0, 2), NOT);
        refused(() -> cast(THREE + ";chill 1 8"), "9 of 8", x -> x.move(1, 0, 9), NOT);
        refused(() -> cast(THREE + ";chill 1 8"), "1 of none", x -> x.move(0, 1, 1), NOT);
    }

    @Says(promise = 11, value = "the other would have more than 9.")
    private static void moveTooMany() {
        refused(() -> cast(THREE + ";chill 0 9;chill 1 9"), "1 to 9", x -> x.move(0, 1, 1), NOT);
        refused(() -> cast(THREE + ";chill 0 9;chill 1 1"), "9 to 1", x -> x.move(0, 1, 9), NOT);
        due("9 to none", cast(THREE + ";chill 0 9").move(0, 1, 9), 9);
    }

    // ---- 12 chill

    @Says(promise = 12, value = "A SECTION has n CHILLS (0 .. 9): TOPS then (how many).")
    private static void chill() {
        // Times 2, 1, 12/5; tops 0 and 2 beside 1.
        FeedCheck x = cast("section 40 20;section 9 9;section 60 25;joint 0 1;joint 1 2");
        due("40 by 40 is as 1 is, of the lesser number: a top yet", x.chill(0, 2), 2);
        due("40 by 50 is none", x.chill(0, 3), 1);
        due("9 each: 2 is the only top", x.chill(0, 9), 1);
        due("9 too: 60 by 115 is none, 1 is the top", x.chill(2, 9), 1);
        due("tops", x.count(3), 2);
        due("0 again", x.chill(0, 0), 1);
        due("chills", fit(x), "chills 0 0 9 risers");
        due("all ten are tops", cast(TEN).chill(9, 9), 10);
    }

    @Says(promise = 12, value = "UNKNOWN")
    private static void chillUnknown() {
        due("none yet", new FeedCheck().chill(0, 1), UNKNOWN);
        due("an eleventh", cast(TEN).chill(10, 1), UNKNOWN);
        refused("chill(3, 1)", x -> x.chill(3, 1), UNKNOWN);
        refused("chill(-1, 1)", x -> x.chill(-1, 1), UNKNOWN);
        for (int far : FAR) {
            due("chill(" + far + ", 10)", busy().chill(far, 10), UNKNOWN);
        }
    }

    @Says(promise = 12, value = "OUTSIDE")
    private static void chillOutside() {
        refused("chill(0, 10)", x -> x.chill(0, 10), OUTSIDE);
        refused("chill(0, -1)", x -> x.chill(0, -1), OUTSIDE);
        for (int far : FAR) {
            due("chill(0, " + far + ")", busy().chill(0, far), OUTSIDE);
        }
    }

    @Says(promise = 12, value = "NOT: it has.")
    private static void chillNot() {
        refused("1 of 1", x -> x.chill(0, 1), NOT);
        refused(() -> cast(THREE + ";chill 1 9"), "9 of 9", x -> x.chill(1, 9), NOT);
        refused(() -> cast(THREE + ";chill 1 9"), "0 of none", x -> x.chill(0, 0), NOT);
    }

    // ---- 13 undo

    @Says(promise = 13, value = "The latest put(), take(), move(), chill() is undone")
    private static void undo() {
        FeedCheck x = cast(THREE + ";riser 0 1 1;riser 1 2 2;riser 2 3 3;chill 0 4");
        x.put(0, 7, 7);
        x.take(0);
        x.move(0, 1, 3);
        x.chill(2, 5);
        due("all four", fit(x), "chills 1 3 5 risers 1/2/2 2/3/3 0/7/7");
        due("chill", x.undo(), 3);
        due("but for the chill", fit(x), "chills 1 3 0 risers 1/2/2 2/3/3 0/7/7");
        due("move", x.undo(), 2);
        due("but for the move", fit(x), "chills 4 0 0 risers 1/2/2 2/3/3 0/7/7");
        due("take", x.undo(), 1);
        due("the taken one has its number again", fit(x), "chills 4 0 0 risers 0/1/1 1/2/2 2/3/3 0/7/7");
        due("put", x.undo(), 0);
        due("as told", fit(x), "chills 4 0 0 risers 0/1/1 1/2/2 2/3/3");
        x.chill(0, 9);
        due("a new one behind", x.undo(), 0);
        FeedCheck six = sixRisers();
        six.take(0);
        six.put(0, 98, 99);
        due("a sixth again", six.undo(), 3);
        due("the first of six", six.undo(), 2);
        due("all six", fit(six), "chills 0 risers 0/1/1 0/1/2 0/1/3 0/1/4 0/1/5 0/1/6");
        due("as told", fit(x), "chills 4 0 0 risers 0/1/1 1/2/2 2/3/3");
    }

    @Says(promise = 13, value = "(the last 8 can be)")
    private static void undoEight() {
        FeedCheck x = tenChanges();
        for (int left = 7; left >= 0; left--) {
            due("undo", x.undo(), left);
        }
        due("the first two stay", fit(x), "chills 0 2 0 risers 0/5/5");
        due("a ninth", x.undo(), NOT);
        FeedCheck eight = cast(THREE);
        for (int n = 1; n <= 8; n++) {
            eight.chill(0, n);
        }
        for (int left = 7; left >= 0; left--) {
            due("undo of eight", eight.undo(), left);
        }
        due("all eight", fit(eight), "chills 0 0 0 risers");
    }

    @Says(promise = 13, value = "how many can be undone yet.")
    private static void undoable() {
        FeedCheck x = tenChanges();
        due("8 of 10", x.count(11), 8);
        due("one undone", x.undo(), 7);
        x.put(0, 1, 1);
        due("one more done", x.count(11), 8);
        x.put(0, 1, 1);
        due("one more still", x.count(11), 8);
        due("undone", x.undo(), 7);
    }

    @Says(promise = 13, value = "NOT: none.")
    private static void undoNot() {
        refused(FeedCheck::new, "a new object", FeedCheck::undo, NOT);
        refused(() -> cast(THREE + ";riser 0 1 1"), "a told riser", FeedCheck::undo, NOT);
        refused(() -> {
            FeedCheck x = cast(THREE);
            x.put(0, 1, 1);
            x.undo();
            return x;
        }, "all undone", FeedCheck::undo, NOT);
        FeedCheck x = cast(THREE);
        x.keep(0);
        x.bin(0, 0);
        due("keep() and bin() are not undone", x.undo(), NOT);
    }

    // ---- 14 keep

    @Says(promise = 14, value = "RISERS, CHILLS as they are now are kept (k 0, 1): how many RISERS.")
    private static void keep() {
        due("nothing, at first", new FeedCheck().keep(0), 0);
        due("six", sixRisers().keep(1), 6);
        FeedCheck x = cast(THREE + ";riser 0 1 1");
        due("keep(0)", x.keep(0), 1);
        x.put(1, 2, 2);
        x.chill(2, 9);
        due("keep(1)", x.keep(1), 2);
        x.take(0);
        x.take(0);
        x.chill(2, 1);
        due("it is kept as it was", x.back(1), 2);
        due("all", fit(x), "chills 0 0 9 risers 0/1/1 1/2/2");
        due("the other too", x.back(0), 1);
        due("all", fit(x), "chills 0 0 0 risers 0/1/1");
        x.chill(0, 3);
        due("keep(1) again", x.keep(1), 1);
        x.back(0);
        x.back(1);
        due("the later one is kept", fit(x), "chills 3 0 0 risers 0/1/1");
    }

    @Says(promise = 14, value = "UNKNOWN: no such k.")
    private static void keepUnknown() {
        refused("keep(2)", x -> x.keep(2), UNKNOWN);
        refused("keep(-1)", x -> x.keep(-1), UNKNOWN);
        for (int far : FAR) {
            due("keep(" + far + ")", busy().keep(far), UNKNOWN);
        }
    }

    // ---- 15 back

    @Says(promise = 15, value = "They are as they were kept")
    private static void back() {
        FeedCheck x = cast(THREE + ";riser 2 5 6;chill 1 1");
        x.keep(0);
        x.take(0);
        x.move(1, 2, 1);
        x.back(0);
        due("as kept", fit(x), "chills 0 1 0 risers 2/5/6");
        x.chill(0, 9);
        x.back(0);
        due("once more", fit(x), "chills 0 1 0 risers 2/5/6");
        FeedCheck none = cast(THREE);
        none.keep(1);
        none.put(0, 1, 1);
        none.back(1);
        due("none were kept", fit(none), "chills 0 0 0 risers");
    }

    @Says(promise = 15, value = "nothing can be undone")
    private static void backUndone() {
        FeedCheck x = busy();
        due("five ahead", x.count(11), 5);
        x.back(0);
        due("none behind", x.count(11), 0);
        due("undo", x.undo(), NOT);
        x.put(0, 1, 1);
        due("the next can be", x.undo(), 0);
        due("up to what was kept", fit(x), "chills 0 2 0 risers 2/50/15 0/90/20");
    }

    @Says(promise = 15, value = "how many RISERS.")
    private static void backRisers() {
        FeedCheck x = sixRisers();
        x.keep(0);
        for (int r = 5; r >= 0; r--) {
            x.take(r);
        }
        x.keep(1);
        for (int r = 0; r < 6; r++) {
            x.put(0, 98, 99);
        }
        due("six", x.back(0), 6);
        due("all six", fit(x), "chills 0 risers 0/1/1 0/1/2 0/1/3 0/1/4 0/1/5 0/1/6");
        due("none", x.back(1), 0);
    }

    @Says(promise = 15, value = "UNKNOWN")
    private static void backUnknown() {
        refused("back(2)", x -> x.back(2), UNKNOWN);
        refused("back(-1)", x -> x.back(-1), UNKNOWN);
        for (int far : FAR) {
            due("back(" + far + ")", busy().back(far), UNKNOWN);
        }
    }

    @Says(promise = 15, value = "NOT: nothing was kept since the last text.")
    private static void backNot() {
        refused(FeedCheck::new, "back(0) at first", x -> x.back(0), NOT);
        refused("back(1), where only 0 was kept", x -> x.back(1), NOT);
        FeedCheck x = busy();
        due("a text", x.casting(), 2);
        due("back(0) behind it", x.back(0), NOT);
        x.keep(1);
        due("back(1) kept since", x.back(1), 1);
        type(x, "castings");
        due("a text with a fault", x.casting(), NOT);
        due("takes nothing", x.back(1), 1);
    }
}
