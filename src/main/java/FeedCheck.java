import java.util.Arrays;

/**
 * A casting of sections that freezes, and the risers that must feed it.
 * What each call promises stands in the project's document; all rows are made once, in constructors.
 */
public final class FeedCheck {
    public static final int NONE = -1, UNKNOWN = -2, OUTSIDE = -3, NOT = -4, FULL = -5, NULL = -11, KIND = -12, EMPTY = -13, ROOM = -14;

    private static final int MOST_SECTIONS = 10;
    private static final int MOST_RISERS = 6;
    private static final int MOST_CHILLS = 9;
    private static final int MOST_SIZE = 99;
    private static final int MOST_NEED = 999;
    private static final int MOST_LETTERS = 200;
    private static final int MOST_CLAUSES = 24;
    private static final int MOST_DIGITS = 3;
    private static final int MOST_UNDONE = 8;
    private static final int MOST_KEPT = 2;
    private static final int MOST_BINS = 3;
    private static final int MOST_THINGS = 8;
    private static final int MOST_WHOLE = 999;
    private static final int WHOLE_TOLD = 20000;
    private static final int PAIR_TOLD = 100;
    private static final int WHOLES = 0;
    private static final int PAIRS = 1;

    private final Text text = new Text();
    private final Plan told = new Plan();
    private final Plan trial = new Plan();
    private final Reader reader = new Reader(text, trial);
    private final Fit now = new Fit();
    private final History history = new History();
    private final Fit[] kept = new Fit[MOST_KEPT];
    private final boolean[] wasKept = new boolean[MOST_KEPT];
    private final Melt melt = new Melt(told, now);
    private final Bin[] bins = new Bin[MOST_BINS];

    public FeedCheck() {
        for (int k = 0; k < MOST_KEPT; k++) {
            kept[k] = new Fit();
        }
        for (int i = 0; i < MOST_BINS; i++) {
            bins[i] = new Bin();
        }
    }

    // ---- what is told

    public int write(int letter) {
        if (letter < 0 || letter > 255) {
            return OUTSIDE;
        }
        if (text.length >= MOST_LETTERS) {
            return FULL;
        }
        text.letters[text.length] = letter;
        text.length++;
        return text.length;
    }

    public int erase() {
        int had = text.length;
        text.length = 0;
        return had;
    }

    public int fault() {
        return reader.read(told);
    }

    public int casting() {
        if (reader.read(told) != NONE) {
            return NOT;
        }
        told.copyFrom(trial);
        now.copyFrom(told.fit);
        forgetAll();
        text.length = 0;
        return reader.clauses;
    }

    public int section(int section, int what) {
        if (!isSection(section)) {
            return UNKNOWN;
        }
        if (what < 0 || what > 8) {
            return OUTSIDE;
        }
        melt.settle();
        switch (what) {
            case 0: return told.volume[section];
            case 1: return told.skin[section];
            case 2: return now.chills[section];
            case 3: return told.neighbours[section];
            case 4: return melt.above[section] / melt.commonPart(section);
            case 5: return melt.below[section] / melt.commonPart(section);
            case 6: return oneIf(melt.isTop(section));
            case 7: return melt.summit[section];
            default: return melt.steps[section];
        }
    }

    public int top(int section, int what) {
        if (!isSection(section)) {
            return UNKNOWN;
        }
        if (what < 0 || what > 4) {
            return OUTSIDE;
        }
        melt.settle();
        if (!melt.isTop(section)) {
            return NOT;
        }
        switch (what) {
            case 0: return melt.basin(section);
            case 1: return melt.drownedIn[section];
            case 2: return melt.head[section];
            case 3: return oneIf(melt.feeder(section, melt.allRisers()) != NONE);
            default: return melt.feeder(section, melt.allRisers());
        }
    }

    public int riser(int riser, int what) {
        if (!isRiser(riser)) {
            return UNKNOWN;
        }
        switch (what) {
            case 0: return now.place[riser];
            case 1: return now.volume[riser];
            case 2: return now.skin[riser];
            case 3:
                melt.settle();
                return melt.starvedBy(riser);
            default: return OUTSIDE;
        }
    }

    // ---- what is done

    public int put(int section, int volume, int skin) {
        if (!isSection(section)) {
            return UNKNOWN;
        }
        if (!isSize(volume) || !isSize(skin)) {
            return OUTSIDE;
        }
        if (now.risers >= MOST_RISERS) {
            return FULL;
        }
        history.remember(now);
        now.addRiser(section, volume, skin);
        return now.risers - 1;
    }

    public int take(int riser) {
        if (!isRiser(riser)) {
            return UNKNOWN;
        }
        history.remember(now);
        now.removeRiser(riser);
        return now.risers;
    }

    public int move(int from, int to, int n) {
        if (!isSection(from) || !isSection(to) || from == to) {
            return UNKNOWN;
        }
        if (!isChillStep(n)) {
            return OUTSIDE;
        }
        if (now.chills[from] < n || now.chills[to] + n > MOST_CHILLS) {
            return NOT;
        }
        history.remember(now);
        now.chills[from] -= n;
        now.chills[to] += n;
        return now.chills[to];
    }

    public int chill(int section, int n) {
        if (!isSection(section)) {
            return UNKNOWN;
        }
        if (n < 0 || n > MOST_CHILLS) {
            return OUTSIDE;
        }
        if (now.chills[section] == n) {
            return NOT;
        }
        history.remember(now);
        now.chills[section] = n;
        melt.settle();
        return Integer.bitCount(melt.tops());
    }

    public int undo() {
        if (history.size == 0) {
            return NOT;
        }
        history.recall(now);
        return history.size;
    }

    public int keep(int k) {
        if (!isKeepPlace(k)) {
            return UNKNOWN;
        }
        kept[k].copyFrom(now);
        wasKept[k] = true;
        return now.risers;
    }

    public int back(int k) {
        if (!isKeepPlace(k)) {
            return UNKNOWN;
        }
        if (!wasKept[k]) {
            return NOT;
        }
        now.copyFrom(kept[k]);
        history.size = 0;
        return now.risers;
    }

    // ---- what is found

    public int order(int k) {
        if (k < 0) {
            return OUTSIDE;
        }
        melt.settle();
        return melt.atRank(k);
    }

    public int pass(int one, int other) {
        if (!isSection(one) || !isSection(other) || one == other) {
            return UNKNOWN;
        }
        melt.settle();
        return melt.passBetween(melt.summit[one], melt.summit[other]);
    }

    public int need(int section, int k) {
        if (!isSection(section)) {
            return UNKNOWN;
        }
        if (!isSize(k)) {
            return OUTSIDE;
        }
        melt.settle();
        if (!melt.isTop(section)) {
            return NOT;
        }
        return melt.leastVolume(section, k);
    }

    public int best(int n, int what) {
        if (!isChillStep(n) || what < 0 || what > 1) {
            return OUTSIDE;
        }
        melt.settle();
        int chosen = melt.bestChilled(n);
        if (what == 0 || chosen == NONE) {
            return chosen;
        }
        return melt.topsIfChilled(chosen, n);
    }

    public int least(int what) {
        if (what < 0 || what > 1) {
            return OUTSIDE;
        }
        melt.settle();
        int set = melt.fewestRisers();
        return what == 0 ? set : Integer.bitCount(set);
    }

    // ---- bins

    public int bin(int bin, int kind) {
        if (!isBin(bin)) {
            return UNKNOWN;
        }
        if (kind != WHOLES && kind != PAIRS) {
            return OUTSIDE;
        }
        bins[bin].begin(kind);
        return 0;
    }

    public int addWhole(int bin, int v) {
        if (!isBin(bin)) {
            return UNKNOWN;
        }
        if (v < -MOST_WHOLE || v > MOST_WHOLE) {
            return OUTSIDE;
        }
        return bins[bin].addThing(WHOLES, v + WHOLE_TOLD);
    }

    public int addPair(int bin, int one, int other) {
        if (!isBin(bin)) {
            return UNKNOWN;
        }
        if (!isPairPart(one) || !isPairPart(other)) {
            return OUTSIDE;
        }
        return bins[bin].addThing(PAIRS, one * PAIR_TOLD + other);
    }

    public int find(int bin, int what) {
        if (!isBin(bin)) {
            return UNKNOWN;
        }
        if (what < 0 || what > 2) {
            return OUTSIDE;
        }
        Bin b = bins[bin];
        if (b.missing) {
            return NULL;
        }
        if (b.size == 0) {
            return EMPTY;
        }
        switch (what) {
            case 0: return b.greatest();
            case 1: return b.smallest();
            default: return b.things[b.size - 1];
        }
    }

    public int pop(int bin) {
        if (!isBin(bin)) {
            return UNKNOWN;
        }
        Bin b = bins[bin];
        if (b.missing) {
            return NULL;
        }
        if (b.size == 0) {
            return EMPTY;
        }
        b.size--;
        return b.things[b.size];
    }

    public int sort(int bin) {
        if (!isBin(bin)) {
            return UNKNOWN;
        }
        Bin b = bins[bin];
        if (b.missing) {
            return NULL;
        }
        b.arrange();
        return b.size;
    }

    public int pour(int bin, int other) {
        if (!isBin(bin) || !isBin(other) || bin == other) {
            return UNKNOWN;
        }
        return bins[other].addAll(bins[bin]);
    }

    public int sum(int bin) {
        if (!isBin(bin)) {
            return UNKNOWN;
        }
        return bins[bin].missing ? NULL : bins[bin].together();
    }

    public int drop(int bin) {
        if (!isBin(bin)) {
            return UNKNOWN;
        }
        if (bins[bin].missing) {
            return NULL;
        }
        int had = bins[bin].size;
        bins[bin].vanish();
        return had;
    }

    public int count(int what) {
        if (what < 0 || what > 12) {
            return OUTSIDE;
        }
        switch (what) {
            case 0: return told.sections;
            case 1: return told.joints();
            case 2: return now.risers;
            case 3:
            case 4:
            case 5:
            case 6: return countOfTops(what);
            case 7: return told.shareA;
            case 8: return told.shareB;
            case 9: return told.passPart;
            case 10: return thingsOfAllBins();
            case 11: return history.size;
            default: return text.length;
        }
    }

    // ---- help for the calls

    private boolean isSection(int section) {
        return section >= 0 && section < told.sections;
    }

    private boolean isRiser(int riser) {
        return riser >= 0 && riser < now.risers;
    }

    private static boolean isSize(int n) {
        return n >= 1 && n <= MOST_SIZE;
    }

    private static boolean isChillStep(int n) {
        return n >= 1 && n <= MOST_CHILLS;
    }

    private static boolean isKeepPlace(int k) {
        return k >= 0 && k < MOST_KEPT;
    }

    private static boolean isBin(int bin) {
        return bin >= 0 && bin < MOST_BINS;
    }

    private static boolean isPairPart(int n) {
        return n >= 0 && n <= 99;
    }

    private static int oneIf(boolean so) {
        return so ? 1 : 0;
    }

    private void forgetAll() {
        history.size = 0;
        for (int k = 0; k < MOST_KEPT; k++) {
            wasKept[k] = false;
        }
        for (int i = 0; i < MOST_BINS; i++) {
            bins[i].vanish();
        }
    }

    private int countOfTops(int what) {
        melt.settle();
        switch (what) {
            case 3: return melt.tops();
            case 4: return melt.drownedTops();
            case 5: return melt.fedTops(melt.allRisers());
            default: return oneIf(melt.fedTops(melt.allRisers()) == melt.tops());
        }
    }

    private int thingsOfAllBins() {
        int all = 0;
        for (int i = 0; i < MOST_BINS; i++) {
            all += bins[i].size;
        }
        return all;
    }

    /** The letters written so far. */
    private static final class Text {
        private final int[] letters = new int[MOST_LETTERS];
        private int length;

        /** 0 beyond the end: neither a small letter nor a digit, so that every row of these ends there. */
        private int letterAt(int place) {
            return place >= 0 && place < length ? letters[place] : 0;
        }
    }

    /** What the calls change and keep: risers and chills. */
    private static final class Fit {
        private final int[] chills = new int[MOST_SECTIONS];
        private final int[] place = new int[MOST_RISERS];
        private final int[] volume = new int[MOST_RISERS];
        private final int[] skin = new int[MOST_RISERS];
        private int risers;

        private void clear() {
            Arrays.fill(chills, 0);
            risers = 0;
        }

        private void copyFrom(Fit other) {
            System.arraycopy(other.chills, 0, chills, 0, MOST_SECTIONS);
            System.arraycopy(other.place, 0, place, 0, MOST_RISERS);
            System.arraycopy(other.volume, 0, volume, 0, MOST_RISERS);
            System.arraycopy(other.skin, 0, skin, 0, MOST_RISERS);
            risers = other.risers;
        }

        private void addRiser(int section, int itsVolume, int itsSkin) {
            if (risers >= MOST_RISERS) {
                return;
            }
            place[risers] = section;
            volume[risers] = itsVolume;
            skin[risers] = itsSkin;
            risers++;
        }

        private void removeRiser(int riser) {
            for (int r = riser; r + 1 < risers; r++) {
                place[r] = place[r + 1];
                volume[r] = volume[r + 1];
                skin[r] = skin[r + 1];
            }
            risers--;
        }
    }

    /** What the texts have told, with the risers and chills as they told them. */
    private static final class Plan {
        private final int[] volume = new int[MOST_SECTIONS];
        private final int[] skin = new int[MOST_SECTIONS];
        private final int[] neighbours = new int[MOST_SECTIONS];
        private final Fit fit = new Fit();
        private int sections;
        private int shareA = 6;
        private int shareB = 5;
        private int passPart = 50;

        private void clear() {
            sections = 0;
            fit.clear();
            setRule(6, 5, 50);
        }

        private void copyFrom(Plan other) {
            System.arraycopy(other.volume, 0, volume, 0, MOST_SECTIONS);
            System.arraycopy(other.skin, 0, skin, 0, MOST_SECTIONS);
            System.arraycopy(other.neighbours, 0, neighbours, 0, MOST_SECTIONS);
            fit.copyFrom(other.fit);
            sections = other.sections;
            setRule(other.shareA, other.shareB, other.passPart);
        }

        private void setRule(int a, int b, int c) {
            shareA = a;
            shareB = b;
            passPart = c;
        }

        private void addSection(int itsVolume, int itsSkin) {
            if (sections >= MOST_SECTIONS) {
                return;
            }
            volume[sections] = itsVolume;
            skin[sections] = itsSkin;
            neighbours[sections] = 0;
            sections++;
        }

        private void join(int one, int other) {
            neighbours[one] |= 1 << other;
            neighbours[other] |= 1 << one;
        }

        private int joints() {
            int ends = 0;
            for (int s = 0; s < sections; s++) {
                ends += Integer.bitCount(neighbours[s]);
            }
            return ends / 2;
        }
    }

    /** Reads the text token by token and does its clauses on a trial plan, up to the first fault. */
    private static final class Reader {
        private static final int END = 0;
        private static final int WORD = 1;
        private static final int DIGITS = 2;
        private static final int MARK = 3;

        private final Text text;
        private final Plan plan;
        private int kind;
        private int start;
        private int end;
        private int value;
        private int clauses;

        private Reader(Text text, Plan plan) {
            this.text = text;
            this.plan = plan;
        }

        /** The place of the first fault; NONE: the trial plan is as the whole text tells. */
        private int read(Plan told) {
            plan.copyFrom(told);
            end = 0;
            clauses = 0;
            for (int i = 0; i < MOST_CLAUSES; i++) {
                step();
                if (!clauseStands()) {
                    return start;
                }
                clauses++;
                step();
                if (kind == END) {
                    return NONE;
                }
                if (!isSemicolon()) {
                    return start;
                }
            }
            // A semicolon behind the last clause that may stand would need one clause more.
            return start;
        }

        private boolean clauseStands() {
            if (kind != WORD) {
                return false;
            }
            if (isWord("casting")) {
                plan.clear();
                return true;
            }
            if (isWord("section")) {
                return sectionStands();
            }
            if (isWord("joint")) {
                return jointStands();
            }
            if (isWord("riser")) {
                return riserStands();
            }
            if (isWord("chill")) {
                return chillStands();
            }
            return isWord("rule") && ruleStands();
        }

        private boolean sectionStands() {
            if (plan.sections >= MOST_SECTIONS || !numberStands(1, MOST_SIZE)) {
                return false;
            }
            int volume = value;
            if (!numberStands(1, MOST_SIZE)) {
                return false;
            }
            plan.addSection(volume, value);
            return true;
        }

        private boolean jointStands() {
            if (!numberStands(0, plan.sections - 1)) {
                return false;
            }
            int one = value;
            if (!numberStands(0, plan.sections - 1) || value == one) {
                return false;
            }
            plan.join(one, value);
            return true;
        }

        private boolean riserStands() {
            if (plan.fit.risers >= MOST_RISERS || !numberStands(0, plan.sections - 1)) {
                return false;
            }
            int section = value;
            if (!numberStands(1, MOST_SIZE)) {
                return false;
            }
            int volume = value;
            if (!numberStands(1, MOST_SIZE)) {
                return false;
            }
            plan.fit.addRiser(section, volume, value);
            return true;
        }

        private boolean chillStands() {
            if (!numberStands(0, plan.sections - 1)) {
                return false;
            }
            int section = value;
            if (!numberStands(0, MOST_CHILLS)) {
                return false;
            }
            plan.fit.chills[section] = value;
            return true;
        }

        private boolean ruleStands() {
            if (!numberStands(1, MOST_SIZE)) {
                return false;
            }
            int a = value;
            if (!numberStands(1, MOST_SIZE)) {
                return false;
            }
            int b = value;
            if (!numberStands(0, 100)) {
                return false;
            }
            plan.setRule(a, b, value);
            return true;
        }

        private boolean numberStands(int lowest, int highest) {
            step();
            if (kind != DIGITS || end - start > MOST_DIGITS) {
                return false;
            }
            value = 0;
            for (int i = start; i < end; i++) {
                value = value * 10 + text.letterAt(i) - '0';
            }
            return value >= lowest && value <= highest;
        }

        private void step() {
            start = end;
            while (start < text.length && text.letterAt(start) == ' ') {
                start++;
            }
            end = start;
            if (start >= text.length) {
                kind = END;
                return;
            }
            kind = kindOf(text.letterAt(start));
            end++;
            while (kind != MARK && end < text.length && kindOf(text.letterAt(end)) == kind) {
                end++;
            }
        }

        private static int kindOf(int letter) {
            if (letter >= 'a' && letter <= 'z') {
                return WORD;
            }
            return letter >= '0' && letter <= '9' ? DIGITS : MARK;
        }

        private boolean isSemicolon() {
            return kind == MARK && text.letterAt(start) == ';';
        }

        private boolean isWord(String word) {
            if (end - start != word.length()) {
                return false;
            }
            for (int i = 0; i < word.length(); i++) {
                if (text.letterAt(start + i) != word.charAt(i)) {
                    return false;
                }
            }
            return true;
        }
    }

    /** The latest fits that can come back, in a ring: the oldest gives way. */
    private static final class History {
        private final Fit[] past = new Fit[MOST_UNDONE];
        private int next;
        private int size;

        private History() {
            for (int i = 0; i < MOST_UNDONE; i++) {
                past[i] = new Fit();
            }
        }

        private void remember(Fit fit) {
            past[next].copyFrom(fit);
            next = (next + 1) % MOST_UNDONE;
            size = Math.min(size + 1, MOST_UNDONE);
        }

        private void recall(Fit into) {
            next = (next + MOST_UNDONE - 1) % MOST_UNDONE;
            size--;
            into.copyFrom(past[next]);
        }
    }

    /** How a plan freezes with the risers and chills of a fit; settle() comes ahead of every question. */
    private static final class Melt {
        private final int[] above = new int[MOST_SECTIONS];
        private final int[] below = new int[MOST_SECTIONS];
        private final int[] summit = new int[MOST_SECTIONS];
        private final int[] steps = new int[MOST_SECTIONS];
        private final int[] drownedIn = new int[MOST_SECTIONS];
        private final int[] head = new int[MOST_SECTIONS];
        private final Plan plan;
        private final Fit fit;
        private int sections;

        private Melt(Plan plan, Fit fit) {
            this.plan = plan;
            this.fit = fit;
        }

        private void settle() {
            sections = plan.sections;
            for (int s = 0; s < sections; s++) {
                above[s] = plan.volume[s];
                below[s] = belowWith(s, fit.chills[s]);
            }
            for (int s = 0; s < sections; s++) {
                climb(s);
            }
            for (int s = 0; s < sections; s++) {
                drownedIn[s] = isTop(s) ? drowner(s) : NONE;
            }
            for (int s = 0; s < sections; s++) {
                head[s] = headOf(s);
            }
        }

        private int belowWith(int s, int chills) {
            return plan.skin[s] + 10 * chills;
        }

        private boolean isNeighbour(int s, int t) {
            return (plan.neighbours[s] >> t & 1) != 0;
        }

        private boolean isSooner(int s, int t) {
            int mine = above[s] * below[t];
            int its = above[t] * below[s];
            return mine < its || mine == its && s > t;
        }

        /** The later one of both, where NONE gives way to any. */
        private int later(int s, int t) {
            return s == NONE || t != NONE && isSooner(s, t) ? t : s;
        }

        private int latestNeighbour(int s) {
            int found = NONE;
            for (int t = 0; t < sections; t++) {
                if (isNeighbour(s, t)) {
                    found = later(found, t);
                }
            }
            return found;
        }

        private boolean isTop(int s) {
            for (int t = 0; t < sections; t++) {
                if (isNeighbour(s, t) && isSooner(s, t)) {
                    return false;
                }
            }
            return true;
        }

        /** The latest neighbour, if it is later; NONE from a top. */
        private int nextUp(int s) {
            int next = latestNeighbour(s);
            return next != NONE && isSooner(s, next) ? next : NONE;
        }

        private void climb(int s) {
            int at = s;
            int next = nextUp(at);
            int done = 0;
            while (done < MOST_SECTIONS && next != NONE) {
                at = next;
                next = nextUp(at);
                done++;
            }
            summit[s] = at;
            steps[s] = done;
        }

        private int basin(int top) {
            int set = 0;
            for (int s = 0; s < sections; s++) {
                if (summit[s] == top) {
                    set |= 1 << s;
                }
            }
            return set;
        }

        private int passBetween(int one, int other) {
            int found = NONE;
            if (one == other) {
                return found;
            }
            for (int s = 0; s < sections; s++) {
                for (int t = 0; t < sections; t++) {
                    if (summit[s] == one && summit[t] == other && isNeighbour(s, t)) {
                        found = later(found, isSooner(s, t) ? s : t);
                    }
                }
            }
            return found;
        }

        private int drowner(int top) {
            int found = NONE;
            for (int t = 0; t < sections; t++) {
                if (isTop(t) && isSooner(top, t) && drowns(top, passBetween(top, t))) {
                    found = later(found, t);
                }
            }
            return found;
        }

        private boolean drowns(int top, int pass) {
            return pass != NONE
                && 100 * above[pass] * below[top] >= plan.passPart * above[top] * below[pass];
        }

        private int headOf(int s) {
            int at = s;
            for (int i = 0; i < MOST_SECTIONS && drownedIn[at] != NONE; i++) {
                at = drownedIn[at];
            }
            return at;
        }

        private int tops() {
            int set = 0;
            for (int s = 0; s < sections; s++) {
                if (isTop(s)) {
                    set |= 1 << s;
                }
            }
            return set;
        }

        private int drownedTops() {
            int set = 0;
            for (int s = 0; s < sections; s++) {
                if (drownedIn[s] != NONE) {
                    set |= 1 << s;
                }
            }
            return set;
        }

        private int allRisers() {
            return (1 << fit.risers) - 1;
        }

        private boolean outlasts(int volume, int skin, int top) {
            return volume * plan.shareB * below[top] >= above[top] * plan.shareA * skin;
        }

        /** The first of a set of risers that feeds a top. */
        private int feeder(int top, int risers) {
            for (int r = 0; r < fit.risers; r++) {
                if ((risers >> r & 1) != 0 && head[summit[fit.place[r]]] == head[top]
                    && outlasts(fit.volume[r], fit.skin[r], top)) {
                    return r;
                }
            }
            return NONE;
        }

        private int fedTops(int risers) {
            int set = 0;
            for (int s = 0; s < sections; s++) {
                if (isTop(s) && feeder(s, risers) != NONE) {
                    set |= 1 << s;
                }
            }
            return set;
        }

        private int starvedBy(int riser) {
            int all = allRisers();
            return fedTops(all) & ~fedTops(all & ~(1 << riser));
        }

        private int fewestRisers() {
            int all = allRisers();
            int most = Integer.bitCount(fedTops(all));
            int found = all;
            for (int set = 0; set < all; set++) {
                if (Integer.bitCount(set) < Integer.bitCount(found)
                    && Integer.bitCount(fedTops(set)) == most) {
                    found = set;
                }
            }
            return found;
        }

        private int leastVolume(int top, int skin) {
            for (int volume = 1; volume <= MOST_NEED; volume++) {
                if (outlasts(volume, skin, top)) {
                    return volume;
                }
            }
            return NONE;
        }

        private int atRank(int k) {
            for (int s = 0; s < sections; s++) {
                if (rank(s) == k) {
                    return s;
                }
            }
            return NONE;
        }

        private int rank(int s) {
            int ahead = 0;
            for (int t = 0; t < sections; t++) {
                if (t != s && isSooner(t, s)) {
                    ahead++;
                }
            }
            return ahead;
        }

        /** How many tops there would be; the section's time is set back behind the question. */
        private int topsIfChilled(int s, int n) {
            int before = below[s];
            below[s] = belowWith(s, Math.min(fit.chills[s] + n, MOST_CHILLS));
            int then = Integer.bitCount(tops());
            below[s] = before;
            return then;
        }

        private int bestChilled(int n) {
            int found = NONE;
            int fewest = MOST_SECTIONS + 1;
            for (int s = 0; s < sections; s++) {
                int then = topsIfChilled(s, n);
                if (then < fewest) {
                    fewest = then;
                    found = s;
                }
            }
            return found;
        }

        /** At least 1: what both parts of a section's time can be divided by. */
        private int commonPart(int s) {
            for (int d = above[s]; d > 1; d--) {
                if (above[s] % d == 0 && below[s] % d == 0) {
                    return d;
                }
            }
            return 1;
        }
    }

    /** A bin holds its things as they are told: told numbers stand in the order of the things. */
    private static final class Bin {
        private final int[] things = new int[MOST_THINGS];
        private boolean missing = true;
        private int kind;
        private int size;

        private void begin(int itsKind) {
            missing = false;
            kind = itsKind;
            size = 0;
        }

        private void vanish() {
            missing = true;
            size = 0;
        }

        private int addThing(int itsKind, int thing) {
            if (missing) {
                return NULL;
            }
            if (kind != itsKind) {
                return KIND;
            }
            if (size >= MOST_THINGS) {
                return ROOM;
            }
            things[size] = thing;
            size++;
            return size;
        }

        private int addAll(Bin other) {
            if (missing || other.missing) {
                return NULL;
            }
            if (kind != other.kind) {
                return KIND;
            }
            if (size + other.size > MOST_THINGS) {
                return ROOM;
            }
            System.arraycopy(other.things, 0, things, size, other.size);
            size += other.size;
            return size;
        }

        private int greatest() {
            int found = things[0];
            for (int i = 1; i < size; i++) {
                found = Math.max(found, things[i]);
            }
            return found;
        }

        private int smallest() {
            int found = things[0];
            for (int i = 1; i < size; i++) {
                found = Math.min(found, things[i]);
            }
            return found;
        }

        private void arrange() {
            for (int i = 1; i < size; i++) {
                int thing = things[i];
                int at = i;
                while (at > 0 && things[at - 1] > thing) {
                    things[at] = things[at - 1];
                    at--;
                }
                things[at] = thing;
            }
        }

        private int together() {
            int all = 0;
            for (int i = 0; i < size; i++) {
                all += things[i];
            }
            return all;
        }
    }
}
