/** Promises 21 to 30, bins and count: each sentence that names a bound, an edge or a refusal has a test of its own. */
public final class BinsBoundaryTest extends Rig {
    private static final String TEN = repeat("section 9 9", ";", 10);
    // Times 2, 1, 12/5, 4/11, 3; basins {0} {1, 2} {3, 4}; 0 drowned in 2 just so, 2 and 4 free.
    private static final String HOUSE = "section 40 20;section 9 9;section 60 25;section 8 12;section 30 10;"
        + "joint 0 1;joint 1 2;joint 2 3;joint 3 4;joint 0 3;riser 2 50 15;riser 4 90 20;chill 3 1";

    public static void main(String[] args) throws Exception {
        runSentences(BinsBoundaryTest.class, 21, 30);
    }

    private static FeedCheck wholes(int... all) {
        FeedCheck x = new FeedCheck();
        x.bin(0, 0);
        for (int v : all) {
            x.addWhole(0, v);
        }
        return x;
    }

    private static FeedCheck pairs(int... told) {
        FeedCheck x = new FeedCheck();
        x.bin(0, 1);
        for (int pair : told) {
            x.addPair(0, pair / 100, pair % 100);
        }
        return x;
    }

    private static FeedCheck eight() {
        return wholes(1, 2, 3, 4, 5, 6, 7, 8);
    }

    private static FeedCheck eightPairs() {
        return pairs(101, 202, 303, 404, 505, 606, 707, 808);
    }

    // ---- 21 bin

    @Says(promise = 21, value = "A BIN is a new one, with nothing, for WHOLES (kind 0), PAIRS (1): 0.")
    private static void bin() {
        FeedCheck x = new FeedCheck();
        due("bin(0, 0)", x.bin(0, 0), 0);
        due("bin(2, 1)", x.bin(2, 1), 0);
        due("a whole", x.addWhole(0, 1), 1);
        due("a pair", x.addPair(2, 1, 1), 1);
        due("1 is missing yet", x.sum(1), NULL);
        due("anew, of the other kind", x.bin(0, 1), 0);
        due("with nothing", x.pop(0), EMPTY);
        due("for pairs", x.addWhole(0, 1), KIND);
        FeedCheck full = eight();
        due("anew, of the same kind", full.bin(0, 0), 0);
        due("with nothing", full.count(10), 0);
        due("there is room again", full.addWhole(0, 9), 1);
    }

    @Says(promise = 21, value = "UNKNOWN")
    private static void binUnknown() {
        refused("bin(3, 0)", x -> x.bin(3, 0), UNKNOWN);
        refused("bin(-1, 0)", x -> x.bin(-1, 0), UNKNOWN);
        for (int far : FAR) {
            due("bin(" + far + ", 2)", busy().bin(far, 2), UNKNOWN);
        }
    }

    @Says(promise = 21, value = "OUTSIDE.")
    private static void binOutside() {
        refused("bin(0, 2)", x -> x.bin(0, 2), OUTSIDE);
        refused("bin(0, -1)", x -> x.bin(0, -1), OUTSIDE);
        refused("bin(2, 2)", x -> x.bin(2, 2), OUTSIDE);
        for (int far : FAR) {
            due("bin(0, " + far + ")", busy().bin(0, far), OUTSIDE);
        }
    }

    // ---- 22 addWhole

    @Says(promise = 22, value = "A WHOLE v comes to a BIN, behind all: how many it has.")
    private static void addWhole() {
        FeedCheck x = wholes();
        int[] all = {-999, 999, 0, -1, 1, 5, 5, -999};
        for (int i = 0; i < all.length; i++) {
            due("thing " + (i + 1), x.addWhole(0, all[i]), i + 1);
            due("behind all", x.find(0, 2), 20000 + all[i]);
        }
        due("from the last", things(x, 0), "19001 20005 20005 20001 19999 20000 20999 19001 -13 1");
    }

    @Says(promise = 22, value = "UNKNOWN")
    private static void addWholeUnknown() {
        refused("addWhole(3, 0)", x -> x.addWhole(3, 0), UNKNOWN);
        refused("addWhole(-1, 0)", x -> x.addWhole(-1, 0), UNKNOWN);
        for (int far : FAR) {
            due("addWhole(" + far + ", 1000)", busy().addWhole(far, 1000), UNKNOWN);
        }
    }

    @Says(promise = 22, value = "OUTSIDE")
    private static void addWholeOutside() {
        refused("addWhole(0, 1000)", x -> x.addWhole(0, 1000), OUTSIDE);
        refused("addWhole(0, -1000)", x -> x.addWhole(0, -1000), OUTSIDE);
        due("ahead of NULL", busy().addWhole(2, 1000), OUTSIDE);
        due("ahead of KIND", busy().addWhole(1, -1000), OUTSIDE);
        due("ahead of ROOM", eight().addWhole(0, 1000), OUTSIDE);
        for (int far : FAR) {
            due("addWhole(0, " + far + ")", busy().addWhole(0, far), OUTSIDE);
        }
    }

    @Says(promise = 22, value = "NULL")
    private static void addWholeNull() {
        refused("addWhole(2, 999)", x -> x.addWhole(2, 999), NULL);
        FeedCheck x = pairs(101);
        x.drop(0);
        due("one that was of pairs", x.addWhole(0, 0), NULL);
    }

    @Says(promise = 22, value = "KIND")
    private static void addWholeKind() {
        refused("addWhole(1, 0)", x -> x.addWhole(1, 0), KIND);
        due("to one with none", pairs().addWhole(0, 0), KIND);
        due("ahead of ROOM", eightPairs().addWhole(0, 0), KIND);
    }

    @Says(promise = 22, value = "ROOM.")
    private static void addWholeRoom() {
        refused(BinsBoundaryTest::eight, "a ninth", x -> x.addWhole(0, 0), ROOM);
        FeedCheck x = eight();
        x.pop(0);
        due("there is room again", x.addWhole(0, 0), 8);
    }

    // ---- 23 addPair

    @Says(promise = 23, value = "A PAIR comes to a BIN, behind all: how many it has.")
    private static void addPair() {
        FeedCheck x = pairs();
        int[] all = {0, 9999, 99, 9900, 101, 101, 5, 500};
        for (int i = 0; i < all.length; i++) {
            due("thing " + (i + 1), x.addPair(0, all[i] / 100, all[i] % 100), i + 1);
            due("behind all", x.find(0, 2), all[i]);
        }
        due("from the last", things(x, 0), "500 5 101 101 9900 99 9999 0 -13 -12");
    }

    @Says(promise = 23, value = "UNKNOWN")
    private static void addPairUnknown() {
        refused("addPair(3, 0, 0)", x -> x.addPair(3, 0, 0), UNKNOWN);
        refused("addPair(-1, 0, 0)", x -> x.addPair(-1, 0, 0), UNKNOWN);
        for (int far : FAR) {
            due("addPair(" + far + ", 100, 100)", busy().addPair(far, 100, 100), UNKNOWN);
        }
    }

    @Says(promise = 23, value = "OUTSIDE")
    private static void addPairOutside() {
        refused("addPair(1, -1, 0)", x -> x.addPair(1, -1, 0), OUTSIDE);
        refused("addPair(1, 100, 0)", x -> x.addPair(1, 100, 0), OUTSIDE);
        refused("addPair(1, 0, -1)", x -> x.addPair(1, 0, -1), OUTSIDE);
        refused("addPair(1, 0, 100)", x -> x.addPair(1, 0, 100), OUTSIDE);
        due("ahead of NULL", busy().addPair(2, 0, 100), OUTSIDE);
        due("ahead of KIND", busy().addPair(0, 0, 100), OUTSIDE);
        due("ahead of ROOM", eightPairs().addPair(0, 100, 0), OUTSIDE);
        for (int far : FAR) {
            due("addPair(1, " + far + ", 0)", busy().addPair(1, far, 0), OUTSIDE);
            due("addPair(1, 0, " + far + ")", busy().addPair(1, 0, far), OUTSIDE);
        }
    }

    @Says(promise = 23, value = "NULL")
    private static void addPairNull() {
        refused("addPair(2, 99, 99)", x -> x.addPair(2, 99, 99), NULL);
        FeedCheck x = wholes(1);
        x.drop(0);
        due("one that was of wholes", x.addPair(0, 0, 0), NULL);
    }

    @Says(promise = 23, value = "KIND")
    private static void addPairKind() {
        refused("addPair(0, 0, 0)", x -> x.addPair(0, 0, 0), KIND);
        due("to one with none", wholes().addPair(0, 0, 0), KIND);
        due("ahead of ROOM", eight().addPair(0, 0, 0), KIND);
    }

    @Says(promise = 23, value = "ROOM.")
    private static void addPairRoom() {
        refused(BinsBoundaryTest::eightPairs, "a ninth", x -> x.addPair(0, 0, 0), ROOM);
        FeedCheck x = eightPairs();
        x.pop(0);
        due("there is room again", x.addPair(0, 0, 0), 8);
    }

    // ---- 24 find

    @Says(promise = 24, value = "Of a BIN: the greatest (what 0)")
    private static void findGreatest() {
        due("the only one", wholes(-999).find(0, 0), 19001);
        due("the first", wholes(3, 2, 1).find(0, 0), 20003);
        due("the last of eight", eight().find(0, 0), 20008);
        due("below 0", wholes(-5, -7, -6).find(0, 0), 19995);
        due("of pairs by the first number", pairs(199, 200).find(0, 0), 200);
        FeedCheck x = wholes(1, 9, 2);
        x.pop(0);
        x.pop(0);
        due("one that is gone does not count", x.find(0, 0), 20001);
    }

    @Says(promise = 24, value = "the least (1)")
    private static void findLeast() {
        due("the only one", wholes(999).find(0, 1), 20999);
        due("the last", wholes(3, 2, 1).find(0, 1), 20001);
        due("the first of eight", eight().find(0, 1), 20001);
        due("of pairs by the second number", pairs(301, 300).find(0, 1), 300);
        FeedCheck x = wholes(5, 1);
        x.pop(0);
        due("one that is gone does not count", x.find(0, 1), 20005);
    }

    @Says(promise = 24, value = "the last (2), as told.")
    private static void findLast() {
        due("the only one", wholes(0).find(0, 2), 20000);
        due("of eight", eight().find(0, 2), 20008);
        due("of pairs", pairs(9999, 0).find(0, 2), 0);
        FeedCheck x = wholes(5, 4);
        x.find(0, 2);
        due("it stays", things(x, 0), "20004 20005 -13 1");
    }

    @Says(promise = 24, value = "UNKNOWN")
    private static void findUnknown() {
        refused("find(3, 0)", x -> x.find(3, 0), UNKNOWN);
        refused("find(-1, 0)", x -> x.find(-1, 0), UNKNOWN);
        for (int far : FAR) {
            due("find(" + far + ", 3)", busy().find(far, 3), UNKNOWN);
        }
    }

    @Says(promise = 24, value = "OUTSIDE")
    private static void findOutside() {
        refused("find(0, 3)", x -> x.find(0, 3), OUTSIDE);
        refused("find(0, -1)", x -> x.find(0, -1), OUTSIDE);
        due("ahead of NULL", busy().find(2, 3), OUTSIDE);
        due("ahead of EMPTY", wholes().find(0, 3), OUTSIDE);
        for (int far : FAR) {
            due("find(0, " + far + ")", busy().find(0, far), OUTSIDE);
        }
    }

    @Says(promise = 24, value = "NULL")
    private static void findNull() {
        for (int what = 0; what <= 2; what++) {
            int asked = what;
            refused("find(2, " + what + ")", x -> x.find(2, asked), NULL);
        }
    }

    @Says(promise = 24, value = "EMPTY.")
    private static void findEmpty() {
        for (int what = 0; what <= 2; what++) {
            int asked = what;
            refused(() -> wholes(), "find(0, " + what + ")", x -> x.find(0, asked), EMPTY);
            due("of pairs, find(0, " + what + ")", pairs().find(0, what), EMPTY);
        }
    }

    // ---- 25 pop

    @Says(promise = 25, value = "The last one of a BIN goes: it.")
    private static void pop() {
        due("all of eight", things(eight(), 0), "20008 20007 20006 20005 20004 20003 20002 20001 -13 1");
        due("pairs", things(pairs(0, 9999), 0), "9999 0 -13 -12");
        FeedCheck x = eight();
        x.pop(0);
        due("seven are left", x.count(10), 7);
    }

    @Says(promise = 25, value = "UNKNOWN")
    private static void popUnknown() {
        refused("pop(3)", x -> x.pop(3), UNKNOWN);
        refused("pop(-1)", x -> x.pop(-1), UNKNOWN);
        for (int far : FAR) {
            due("pop(" + far + ")", busy().pop(far), UNKNOWN);
        }
    }

    @Says(promise = 25, value = "NULL")
    private static void popNull() {
        refused("pop(2)", x -> x.pop(2), NULL);
    }

    @Says(promise = 25, value = "EMPTY.")
    private static void popEmpty() {
        refused(() -> wholes(), "none yet", x -> x.pop(0), EMPTY);
        FeedCheck x = wholes(1);
        x.pop(0);
        due("none left", x.pop(0), EMPTY);
        due("once more", x.pop(0), EMPTY);
        due("a bin yet", x.addWhole(0, 1), 1);
    }

    // ---- 26 sort

    // Like things are told alike, so that whether they stay as they were shows in nothing but that all are there.
    @Says(promise = 26, value = "A BIN in order, the least first (like ones as they were): how many are there.")
    private static void sort() {
        due("of none", wholes().sort(0), 0);
        due("of one", wholes(5).sort(0), 1);
        FeedCheck x = wholes(5, -999, 3, 3, 999, 0, -1, 3);
        due("of eight", x.sort(0), 8);
        due("from the last", things(x, 0), "20999 20005 20003 20003 20003 20000 19999 19001 -13 1");
        FeedCheck back = wholes(8, 7, 6, 5, 4, 3, 2, 1);
        back.sort(0);
        due("from behind to front", things(back, 0), "20008 20007 20006 20005 20004 20003 20002 20001 -13 1");
        FeedCheck sorted = eight();
        sorted.sort(0);
        due("sorted already", sorted.find(0, 2), 20008);
        FeedCheck pairs = pairs(200, 199, 99, 198, 200);
        due("pairs", pairs.sort(0), 5);
        due("from the last", things(pairs, 0), "200 200 199 198 99 -13 -12");
        FeedCheck popped = wholes(1, 2, -5);
        popped.pop(0);
        due("one that is gone", popped.sort(0), 2);
        due("does not come back", things(popped, 0), "20002 20001 -13 1");
    }

    @Says(promise = 26, value = "UNKNOWN")
    private static void sortUnknown() {
        refused("sort(3)", x -> x.sort(3), UNKNOWN);
        refused("sort(-1)", x -> x.sort(-1), UNKNOWN);
        for (int far : FAR) {
            due("sort(" + far + ")", busy().sort(far), UNKNOWN);
        }
    }

    @Says(promise = 26, value = "NULL.")
    private static void sortNull() {
        refused("sort(2)", x -> x.sort(2), NULL);
    }

    // ---- 27 pour

    @Says(promise = 27, value = "All of a BIN come behind those of another one, too: how many that has.")
    private static void pour() {
        FeedCheck x = wholes(1, 2, 3);
        x.bin(2, 0);
        x.addWhole(2, 9);
        due("3 behind 1", x.pour(0, 2), 4);
        due("4 behind 3", x.pour(2, 0), 7);
        due("the one has its own yet", things(x, 2), "20003 20002 20001 20009 -13 1");
        due("the other has both", things(x, 0), "20003 20002 20001 20009 20003 20002 20001 -13 1");
        FeedCheck none = wholes();
        none.bin(1, 0);
        due("none to none", none.pour(0, 1), 0);
        FeedCheck full = eight();
        full.bin(1, 0);
        due("none to eight", full.pour(1, 0), 8);
        due("eight to none", full.pour(0, 1), 8);
        due("all there", full.count(10), 16);
        FeedCheck pairs = pairs(101, 202);
        pairs.bin(1, 1);
        due("pairs", pairs.pour(0, 1), 2);
        due("as told", pairs.sum(1), 303);
    }

    @Says(promise = 27, value = "UNKNOWN (the same one twice, too)")
    private static void pourUnknown() {
        refused("pour(3, 0)", x -> x.pour(3, 0), UNKNOWN);
        refused("pour(0, 3)", x -> x.pour(0, 3), UNKNOWN);
        refused("pour(-1, 0)", x -> x.pour(-1, 0), UNKNOWN);
        refused("pour(0, -1)", x -> x.pour(0, -1), UNKNOWN);
        refused("pour(0, 0)", x -> x.pour(0, 0), UNKNOWN);
        refused("pour(2, 2), missing too", x -> x.pour(2, 2), UNKNOWN);
        due("one with none", wholes().pour(0, 0), UNKNOWN);
        for (int far : FAR) {
            due("pour(" + far + ", 0)", busy().pour(far, 0), UNKNOWN);
            due("pour(0, " + far + ")", busy().pour(0, far), UNKNOWN);
        }
    }

    @Says(promise = 27, value = "NULL (either)")
    private static void pourNull() {
        refused("pour(2, 0)", x -> x.pour(2, 0), NULL);
        refused("pour(0, 2)", x -> x.pour(0, 2), NULL);
        refused(FeedCheck::new, "both", x -> x.pour(0, 1), NULL);
        due("ahead of KIND", busy().pour(1, 2), NULL);
    }

    @Says(promise = 27, value = "KIND: they are of unlike kinds")
    private static void pourKind() {
        refused("pour(0, 1)", x -> x.pour(0, 1), KIND);
        refused("pour(1, 0)", x -> x.pour(1, 0), KIND);
        FeedCheck x = eight();
        x.bin(1, 1);
        due("one with none", x.pour(1, 0), KIND);
        x.addPair(1, 1, 1);
        due("ahead of ROOM", x.pour(0, 1), KIND);
    }

    @Says(promise = 27, value = "ROOM.")
    private static void pourRoom() {
        refused(() -> {
            FeedCheck x = eight();
            x.bin(1, 0);
            x.addWhole(1, 1);
            return x;
        }, "9", x -> x.pour(0, 1), ROOM);
        FeedCheck x = eight();
        x.bin(1, 0);
        x.addWhole(1, 1);
        due("9, the other way round", x.pour(1, 0), ROOM);
        x.pop(0);
        due("just 8", x.pour(1, 0), 8);
    }

    // ---- 28 sum

    @Says(promise = 28, value = "All of a BIN as told, together.")
    private static void sum() {
        due("none", wholes().sum(0), 0);
        due("the least", wholes(-999).sum(0), 19001);
        due("eight of the greatest", wholes(999, 999, 999, 999, 999, 999, 999, 999).sum(0), 167992);
        due("eight of the least", wholes(-999, -999, -999, -999, -999, -999, -999, -999).sum(0), 152008);
        due("eight pairs", pairs(9999, 9999, 9999, 9999, 9999, 9999, 9999, 9999).sum(0), 79992);
        due("a pair of nothing", pairs(0).sum(0), 0);
        FeedCheck x = wholes(1, 2);
        x.pop(0);
        due("one that is gone does not count", x.sum(0), 20001);
    }

    @Says(promise = 28, value = "UNKNOWN")
    private static void sumUnknown() {
        refused("sum(3)", x -> x.sum(3), UNKNOWN);
        refused("sum(-1)", x -> x.sum(-1), UNKNOWN);
        for (int far : FAR) {
            due("sum(" + far + ")", busy().sum(far), UNKNOWN);
        }
    }

    @Says(promise = 28, value = "NULL.")
    private static void sumNull() {
        refused("sum(2)", x -> x.sum(2), NULL);
    }

    // ---- 29 drop

    @Says(promise = 29, value = "A BIN is missing from now on: how many it had.")
    private static void drop() {
        FeedCheck x = eight();
        due("eight", x.drop(0), 8);
        due("missing", x.addWhole(0, 1), NULL);
        due("things", x.count(10), 0);
        due("anew", x.bin(0, 0), 0);
        due("with nothing", x.pop(0), EMPTY);
        due("none", x.drop(0), 0);
        FeedCheck y = busy();
        y.drop(1);
        due("the others stay", y.sum(0) * 10 + y.count(10), 400002);
    }

    @Says(promise = 29, value = "UNKNOWN")
    private static void dropUnknown() {
        refused("drop(3)", x -> x.drop(3), UNKNOWN);
        refused("drop(-1)", x -> x.drop(-1), UNKNOWN);
        for (int far : FAR) {
            due("drop(" + far + ")", busy().drop(far), UNKNOWN);
        }
    }

    @Says(promise = 29, value = "NULL.")
    private static void dropNull() {
        refused("drop(2)", x -> x.drop(2), NULL);
        FeedCheck x = wholes(1);
        x.drop(0);
        due("dropped twice", x.drop(0), NULL);
    }

    // ---- 30 count

    @Says(promise = 30, value = "0 SECTIONS")
    private static void countSections() {
        due("none", new FeedCheck().count(0), 0);
        due("ten", cast(TEN).count(0), 10);
    }

    @Says(promise = 30, value = "1 JOINTS")
    private static void countJoints() {
        due("none", cast(TEN).count(1), 0);
        due("told thrice", cast("section 1 1;section 1 1;joint 0 1;joint 1 0;joint 0 1").count(1), 1);
        StringBuilder[] texts = {new StringBuilder(), new StringBuilder(), new StringBuilder()};
        int n = 0;
        for (int i = 0; i < 10; i++) {
            for (int j = i + 1; j < 10; j++) {
                StringBuilder text = texts[n / 15];
                text.append(text.length() == 0 ? "" : ";").append("joint ").append(i).append(' ').append(j);
                n++;
            }
        }
        // Beyond 512 calls nothing is promised: the third text goes to another casting of its own.
        due("thirty", cast(TEN, texts[0].toString(), texts[1].toString()).count(1), 30);
        due("the other fifteen", cast(TEN, texts[2].toString()).count(1), 15);
    }

    @Says(promise = 30, value = "2 RISERS")
    private static void countRisers() {
        due("none", cast("section 1 1").count(2), 0);
        due("six", cast("section 1 1;" + repeat("riser 0 1 1", ";", 6)).count(2), 6);
    }

    @Says(promise = 30, value = "3 TOPS (bits)")
    private static void countTops() {
        due("none", new FeedCheck().count(3), 0);
        due("all ten", cast(TEN).count(3), 1023);
        due("three", cast(HOUSE).count(3), 21);
    }

    @Says(promise = 30, value = "4 those that are DROWNED (bits)")
    private static void countDrowned() {
        due("none", cast(TEN).count(4), 0);
        due("one", cast(HOUSE).count(4), 1);
        due("all but the latest", cast("section 20 10;section 10 10;section 30 10;section 10 10;section 40 10;"
            + "joint 0 1;joint 1 2;joint 2 3;joint 3 4;rule 6 5 0").count(4), 5);
    }

    @Says(promise = 30, value = "5 those that are FED (bits)")
    private static void countFed() {
        FeedCheck x = cast(HOUSE);
        due("all", x.count(5), 21);
        x.take(1);
        due("two", x.count(5), 5);
        x.take(0);
        due("none", x.count(5), 0);
    }

    @Says(promise = 30, value = "6 1 WHOLE")
    private static void countWhole() {
        due("no sections", new FeedCheck().count(6), 1);
        FeedCheck x = cast(HOUSE);
        due("all are fed", x.count(6), 1);
        x.take(1);
        due("one is not", x.count(6), 0);
        x.undo();
        due("undone", x.count(6), 1);
    }

    @Says(promise = 30, value = "7 a")
    private static void countA() {
        due("at first", new FeedCheck().count(7), 6);
        due("1", cast("rule 1 2 3").count(7), 1);
        due("99", cast("rule 99 2 3").count(7), 99);
    }

    @Says(promise = 30, value = "8 b")
    private static void countB() {
        due("at first", new FeedCheck().count(8), 5);
        due("1", cast("rule 2 1 3").count(8), 1);
        due("99", cast("rule 2 99 3").count(8), 99);
    }

    @Says(promise = 30, value = "9 c")
    private static void countC() {
        due("at first", new FeedCheck().count(9), 50);
        due("0", cast("rule 2 3 0").count(9), 0);
        due("100", cast("rule 2 3 100").count(9), 100);
    }

    @Says(promise = 30, value = "10 things of all BINS")
    private static void countThings() {
        FeedCheck x = eight();
        x.bin(1, 0);
        x.pour(0, 1);
        x.bin(2, 0);
        x.pour(0, 2);
        due("24 at most", x.count(10), 24);
        x.drop(1);
        due("but for the missing one", x.count(10), 16);
        x.bin(1, 1);
        due("one with none", x.count(10), 16);
    }

    @Says(promise = 30, value = "11 how many can be undone")
    private static void countUndoable() {
        FeedCheck x = cast("section 1 1");
        due("none", x.count(11), 0);
        for (int n = 1; n <= 9; n++) {
            x.chill(0, n);
            due("after " + n, x.count(11), Math.min(n, 8));
        }
        x.chill(0, 9);
        x.put(0, 0, 0);
        due("refused ones do not count", x.count(11), 8);
        x.undo();
        due("one undone", x.count(11), 7);
    }

    @Says(promise = 30, value = "12 letters of THE TEXT.")
    private static void countLetters() {
        FeedCheck x = new FeedCheck();
        due("none", x.count(12), 0);
        type(x, repeat(" ", "", 200));
        due("200", x.count(12), 200);
        x.write(' ');
        due("a refused one does not count", x.count(12), 200);
        x.erase();
        due("erased", x.count(12), 0);
        due("cast", cast("casting").count(12), 0);
    }

    @Says(promise = 30, value = "OUTSIDE.")
    private static void countOutside() {
        refused("count(13)", x -> x.count(13), OUTSIDE);
        refused("count(-1)", x -> x.count(-1), OUTSIDE);
        for (int far : FAR) {
            due("count(" + far + ")", busy().count(far), OUTSIDE);
        }
    }
}
