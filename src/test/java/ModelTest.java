import java.math.BigInteger;
import java.util.ArrayDeque;
import java.util.ArrayList;
import java.util.Collections;
import java.util.Deque;
import java.util.List;
import java.util.Map;
import java.util.Random;
import java.util.TreeMap;
import java.util.TreeSet;
import java.util.regex.Matcher;
import java.util.regex.Pattern;

/** Runs of 512 calls whose every answer is held against a second model, built otherwise and slowly from the document. */
public final class ModelTest {
    private static final int RUNS = 1500;
    private static final int CALLS = 512;
    private static final int[] FAR = {Integer.MIN_VALUE, Integer.MIN_VALUE + 1, -65536, 32, 64, 65536, Integer.MAX_VALUE - 1, Integer.MAX_VALUE};

    public static void main(String[] args) {
        int wrong = 0;
        Map<String, Integer> seen = new TreeMap<>();
        for (int run = 0; run < RUNS && wrong == 0; run++) {
            wrong += run(run, seen);
        }
        wrong += unseen(seen);
        System.out.println(wrong == 0 ? "the model agrees" : wrong + " answers are not as due");
        if (wrong != 0) {
            System.exit(1);
        }
    }

    /** The runs must reach the refusals and the rare answers, or they would prove little. */
    private static int unseen(Map<String, Integer> seen) {
        String[] must = {"write -3", "write -5", "casting -4", "casting +", "put -5", "put -2", "put -3", "move -4", "move +",
            "chill -4", "undo -4", "back -4", "top -1", "top -4", "need -1", "need -4", "pass -1", "pass +", "fault -1", "fault +",
            "addWhole -14", "addWhole -12", "addPair -14", "pour -14", "pour -12", "pour -11", "find -13", "pop -13", "order -1"};
        int missing = 0;
        for (String m : must) {
            if (!seen.containsKey(m)) {
                missing++;
                System.out.println("no run came to " + m);
            }
        }
        return missing;
    }

    private static int run(int seed, Map<String, Integer> seen) {
        Random random = new Random(seed);
        FeedCheck real = new FeedCheck();
        Model model = new Model();
        model.binsOnly = seed % 8 == 7;
        Deque<String[]> planned = new ArrayDeque<>();
        int calls = 0;
        while (calls < CALLS) {
            if (!model.binsOnly && planned.isEmpty() && (calls == 0 || random.nextInt(seed % 3 == 0 ? 30 : 150) == 0)) {
                plan(random, model, planned);
            }
            boolean free = planned.isEmpty();
            String[] call = free ? call(random, model) : planned.poll();
            if (free && call.length > 1 && random.nextInt(100) == 0) {
                call[1 + random.nextInt(call.length - 1)] = "" + FAR[random.nextInt(FAR.length)];
            }
            int got = ask(real, call);
            int want = model.ask(call);
            calls++;
            seen.merge(call[0] + " " + (got < 0 ? "" + got : "+"), 1, Integer::sum);
            if (got != want) {
                System.out.println("run " + seed + ", call " + calls + ": " + String.join(" ", call) + " answered " + got + ", due is " + want
                    + "; text '" + model.text + "'");
                return 1;
            }
        }
        return 0;
    }

    /** A text from its first letter to its casting. */
    private static void plan(Random r, Model m, Deque<String[]> planned) {
        planned.add(of("erase"));
        for (char c : text(r, m).toCharArray()) {
            planned.add(of("write", c));
        }
        planned.add(of("fault"));
        planned.add(of("casting"));
    }

    private static int number(Random r, int low, int high) {
        return low + r.nextInt(high - low + 1);
    }

    private static int sectionNumber(Random r, Model m) {
        int n = m.volume.size();
        return r.nextInt(12) == 0 || n == 0 ? number(r, -2, 11) : r.nextInt(n);
    }

    private static String text(Random r, Model m) {
        int style = r.nextInt(10);
        StringBuilder b = new StringBuilder();
        int n = r.nextInt(4) == 0 ? 0 : m.told.volume.size();
        if (n == 0) {
            b.append("casting");
        }
        int clauses = number(r, 1, style == 0 ? 26 : 18);
        int big = r.nextBoolean() ? 99 : 12;
        int longest = r.nextInt(20) == 0 ? 230 : 185;
        for (int i = 0; i < clauses && b.length() < longest; i++) {
            b.append(b.length() == 0 ? "" : r.nextInt(9) == 0 ? " ; " : ";");
            int kind = n < 2 || style == 1 ? 0 : r.nextInt(12);
            if (style == 0) {
                b.append("casting");
            } else if (kind < 3 && (n < 10 || style == 1)) {
                b.append("section ").append(number(r, 1, big)).append(' ').append(number(r, 1, big));
                n++;
            } else if (kind < 8 && n > 1) {
                int one = r.nextInt(n);
                int other = (one + 1 + r.nextInt(n - 1)) % n;
                b.append("joint ").append(one).append(' ').append(other);
            } else if (kind < 9) {
                b.append("riser ").append(r.nextInt(n)).append(' ').append(number(r, 1, 99)).append(' ').append(number(r, 1, 30));
            } else if (kind < 11) {
                b.append("chill ").append(r.nextInt(n)).append(' ').append(r.nextInt(10));
            } else {
                b.append("rule ").append(number(r, 1, 20)).append(' ').append(number(r, 1, 20)).append(' ').append(number(r, 0, 100));
            }
        }
        if (r.nextInt(4) == 0 && b.length() > 0) {
            String odd = " ;0159;azcsjr" + (char) 0 + (char) 255 + "A.";
            int at = r.nextInt(b.length());
            b.setCharAt(at, odd.charAt(r.nextInt(odd.length())));
        }
        return b.toString();
    }

    private static String[] of(String name, int... arguments) {
        String[] call = new String[arguments.length + 1];
        call[0] = name;
        for (int i = 0; i < arguments.length; i++) {
            call[i + 1] = "" + arguments[i];
        }
        return call;
    }

    private static String[] call(Random r, Model m) {
        int s = sectionNumber(r, m);
        int t = sectionNumber(r, m);
        int bin = r.nextInt(15) == 0 ? number(r, -1, 3) : r.nextInt(3);
        switch (m.binsOnly ? number(r, 23, 31) : r.nextInt(32)) {
            case 0: return r.nextInt(5) > 0 ? of("count", number(r, 3, 6)) : of("write", r.nextInt(20) == 0 ? number(r, -2, 300) : "casting;section 12 34".charAt(r.nextInt(21)));
            case 1: return r.nextInt(4) == 0 ? of("erase") : of("fault");
            case 2: case 3: return of("casting");
            case 4: case 5: return of("section", s, number(r, -1, 9));
            case 6: case 7: return of("top", s, number(r, -1, 5));
            case 8: return of("riser", number(r, -1, 6), number(r, -1, 4));
            case 9: case 10: return of("put", s, number(r, r.nextInt(5) == 0 ? -1 : 1, 100), number(r, r.nextInt(5) == 0 ? -1 : 1, r.nextInt(5) == 0 ? 100 : 20));
            case 11: return of("take", number(r, -1, 6));
            case 12: return of("move", s, t, number(r, 0, r.nextInt(3) == 0 ? 10 : 3));
            case 13: case 14: return of("chill", s, number(r, -1, 10));
            case 15: return of("undo");
            case 16: return of("keep", number(r, -1, 2));
            case 17: return of("back", number(r, -1, 2));
            case 18: return of("order", number(r, -1, 10));
            case 19: return of("pass", s, t);
            case 20: return of("need", s, number(r, 0, 100));
            case 21: return of("best", number(r, 0, 10), number(r, -1, 2));
            case 22: return of("least", number(r, -1, 2));
            case 23: return r.nextInt(6) == 0 || m.bins.contains(null) ? of("bin", bin, number(r, -1, 2)) : of("sum", bin);
            case 24: return of("addWhole", bin, r.nextInt(9) == 0 ? number(r, -1001, 1001) : number(r, -5, 5));
            case 25: return of("addPair", bin, number(r, -1, r.nextInt(5) == 0 ? 100 : 3), number(r, -1, r.nextInt(5) == 0 ? 100 : 3));
            case 26: return of("find", bin, number(r, -1, 3));
            case 27: return of("pop", bin);
            case 28: return of("sort", bin);
            case 29: return of("pour", bin, number(r, -1, 3));
            case 30: return r.nextInt(9) == 0 ? of("drop", bin) : of("sum", bin);
            default: return of("count", number(r, -1, 13));
        }
    }

    private static int ask(FeedCheck x, String[] c) {
        int p = c.length > 1 ? Integer.parseInt(c[1]) : 0;
        int q = c.length > 2 ? Integer.parseInt(c[2]) : 0;
        int r = c.length > 3 ? Integer.parseInt(c[3]) : 0;
        switch (c[0]) {
            case "write": return x.write(p);
            case "erase": return x.erase();
            case "fault": return x.fault();
            case "casting": return x.casting();
            case "section": return x.section(p, q);
            case "top": return x.top(p, q);
            case "riser": return x.riser(p, q);
            case "put": return x.put(p, q, r);
            case "take": return x.take(p);
            case "move": return x.move(p, q, r);
            case "chill": return x.chill(p, q);
            case "undo": return x.undo();
            case "keep": return x.keep(p);
            case "back": return x.back(p);
            case "order": return x.order(p);
            case "pass": return x.pass(p, q);
            case "need": return x.need(p, q);
            case "best": return x.best(p, q);
            case "least": return x.least(p);
            case "bin": return x.bin(p, q);
            case "addWhole": return x.addWhole(p, q);
            case "addPair": return x.addPair(p, q, r);
            case "find": return x.find(p, q);
            case "pop": return x.pop(p);
            case "sort": return x.sort(p);
            case "pour": return x.pour(p, q);
            case "sum": return x.sum(p);
            case "drop": return x.drop(p);
            case "count": return x.count(p);
            default: throw new IllegalStateException(c[0]);
        }
    }

    /** A fraction in lowest terms. */
    private static final class Part implements Comparable<Part> {
        final BigInteger above;
        final BigInteger below;

        Part(BigInteger above, BigInteger below) {
            BigInteger g = above.gcd(below);
            this.above = g.signum() == 0 ? above : above.divide(g);
            this.below = g.signum() == 0 ? below : below.divide(g);
        }

        static Part of(long above, long below) {
            return new Part(BigInteger.valueOf(above), BigInteger.valueOf(below));
        }

        Part times(long above, long below) {
            return new Part(this.above.multiply(BigInteger.valueOf(above)), this.below.multiply(BigInteger.valueOf(below)));
        }

        public int compareTo(Part other) {
            return above.multiply(other.below).compareTo(other.above.multiply(below));
        }
    }

    private static final class Told {
        List<Integer> volume = new ArrayList<>();
        List<Integer> skin = new ArrayList<>();
        TreeSet<String> joints = new TreeSet<>();
        List<Integer> chills = new ArrayList<>();
        List<int[]> risers = new ArrayList<>();
        int a = 6, b = 5, c = 50;

        Told copy() {
            Told t = new Told();
            t.volume.addAll(volume);
            t.skin.addAll(skin);
            t.joints.addAll(joints);
            t.chills.addAll(chills);
            t.risers.addAll(risers);
            t.a = a;
            t.b = b;
            t.c = c;
            return t;
        }
    }

    private static final class Snap {
        final List<Integer> chills;
        final List<int[]> risers;

        Snap(List<Integer> chills, List<int[]> risers) {
            this.chills = new ArrayList<>(chills);
            this.risers = new ArrayList<>(risers);
        }
    }

    private static final class Model {
        StringBuilder text = new StringBuilder();
        Told told = new Told();
        List<Integer> volume = told.volume;
        List<Integer> chills = new ArrayList<>();
        List<int[]> risers = new ArrayList<>();
        Deque<Snap> past = new ArrayDeque<>();
        Snap[] kept = new Snap[2];
        List<List<Integer>> bins = new ArrayList<>(Collections.nCopies(3, null));
        int[] kinds = new int[3];
        Told parsed;
        int clauses;
        boolean binsOnly;

        int ask(String[] c) {
            int p = c.length > 1 ? Integer.parseInt(c[1]) : 0;
            int q = c.length > 2 ? Integer.parseInt(c[2]) : 0;
            int r = c.length > 3 ? Integer.parseInt(c[3]) : 0;
            switch (c[0]) {
                case "write": return write(p);
                case "erase": int had = text.length(); text.setLength(0); return had;
                case "fault": return parse();
                case "casting": return casting();
                case "section": return section(p, q);
                case "top": return top(p, q);
                case "riser": return riser(p, q);
                case "order": return p < 0 ? -3 : p >= n() ? -1 : order().get(p);
                case "pass": return bad(p) || bad(q) || p == q ? -2 : passOf(summit(p), summit(q));
                case "need": return need(p, q);
                case "best": return best(p, q);
                case "least": return least(p);
                case "count": return count(p);
                case "put": case "take": case "move": case "chill": case "undo": case "keep": case "back": return act(c[0], p, q, r);
                default: return bin(c[0], p, q, r);
            }
        }

        int n() {
            return volume.size();
        }

        boolean bad(int s) {
            return s < 0 || s >= n();
        }

        int write(int letter) {
            if (letter < 0 || letter > 255) return -3;
            if (text.length() == 200) return -5;
            text.append((char) letter);
            return text.length();
        }

        int casting() {
            if (parse() != -1) return -4;
            told = parsed;
            volume = told.volume;
            chills = new ArrayList<>(told.chills);
            risers = new ArrayList<>(told.risers);
            past.clear();
            kept = new Snap[2];
            bins = new ArrayList<>(Collections.nCopies(3, null));
            text.setLength(0);
            return clauses;
        }

        /** By a table of what may follow: each clause's word and the bounds of its numbers. */
        int parse() {
            parsed = told.copy();
            List<String> tokens = new ArrayList<>();
            List<Integer> places = new ArrayList<>();
            Matcher m = Pattern.compile("[a-z]+|[0-9]+|[^ ]", Pattern.DOTALL).matcher(text);
            while (m.find()) {
                tokens.add(m.group());
                places.add(m.start());
            }
            tokens.add("");
            places.add(text.length());
            int i = 0;
            for (clauses = 0; ; ) {
                String word = tokens.get(i);
                int size = parsed.volume.size();
                int[][] bounds;
                switch (word) {
                    case "casting": bounds = new int[0][]; break;
                    case "section": bounds = size == 10 ? null : new int[][] {{1, 99}, {1, 99}}; break;
                    case "joint": bounds = new int[][] {{0, size - 1}, {0, size - 1}}; break;
                    case "riser": bounds = parsed.risers.size() == 6 ? null : new int[][] {{0, size - 1}, {1, 99}, {1, 99}}; break;
                    case "chill": bounds = new int[][] {{0, size - 1}, {0, 9}}; break;
                    case "rule": bounds = new int[][] {{1, 99}, {1, 99}, {0, 100}}; break;
                    default: bounds = null;
                }
                if (bounds == null) return places.get(i);
                i++;
                int[] v = new int[bounds.length];
                for (int k = 0; k < v.length; k++, i++) {
                    if (!tokens.get(i).matches("[0-9]{1,3}")) return places.get(i);
                    v[k] = Integer.parseInt(tokens.get(i));
                    if (v[k] < bounds[k][0] || v[k] > bounds[k][1]) return places.get(i);
                    if (word.equals("joint") && k == 1 && v[0] == v[1]) return places.get(i);
                }
                perform(word, v);
                clauses++;
                if (tokens.get(i).isEmpty()) return -1;
                if (!tokens.get(i).equals(";") || clauses == 24) return places.get(i);
                i++;
            }
        }

        void perform(String word, int[] v) {
            switch (word) {
                case "casting": parsed = new Told(); break;
                case "section": parsed.volume.add(v[0]); parsed.skin.add(v[1]); parsed.chills.add(0); break;
                case "joint": parsed.joints.add(Math.min(v[0], v[1]) + "-" + Math.max(v[0], v[1])); break;
                case "riser": parsed.risers.add(v); break;
                case "chill": parsed.chills.set(v[0], v[1]); break;
                default: parsed.a = v[0]; parsed.b = v[1]; parsed.c = v[2];
            }
        }

        Part time(int s) {
            return Part.of(volume.get(s), told.skin.get(s) + 10L * chills.get(s));
        }

        /** Below 0: s is sooner than t. */
        int compare(int s, int t) {
            int c = time(s).compareTo(time(t));
            return c != 0 ? c : t - s;
        }

        List<Integer> order() {
            List<Integer> all = new ArrayList<>();
            for (int s = 0; s < n(); s++) all.add(s);
            all.sort(this::compare);
            return all;
        }

        boolean joined(int s, int t) {
            return told.joints.contains(Math.min(s, t) + "-" + Math.max(s, t));
        }

        List<Integer> path(int s) {
            List<Integer> way = new ArrayList<>(List.of(s));
            while (true) {
                int at = way.get(way.size() - 1);
                int next = at;
                for (int t = 0; t < n(); t++) if (joined(at, t) && compare(t, next) > 0) next = t;
                if (next == at) return way;
                way.add(next);
            }
        }

        int summit(int s) {
            List<Integer> way = path(s);
            return way.get(way.size() - 1);
        }

        int bits(java.util.function.IntPredicate p) {
            int set = 0;
            for (int s = 0; s < n(); s++) if (p.test(s)) set |= 1 << s;
            return set;
        }

        boolean isTop(int s) {
            return summit(s) == s;
        }

        int passOf(int x, int y) {
            List<Integer> lows = new ArrayList<>();
            for (String j : told.joints) {
                int s = j.charAt(0) - '0';
                int t = j.charAt(2) - '0';
                int u = summit(s);
                int w = summit(t);
                if (x != y && (u == x && w == y || u == y && w == x)) lows.add(compare(s, t) < 0 ? s : t);
            }
            return lows.isEmpty() ? -1 : Collections.max(lows, this::compare);
        }

        int drownedIn(int top) {
            List<Integer> order = order();
            Collections.reverse(order);
            for (int t : order) {
                if (t == top) return -1;
                int p = isTop(t) ? passOf(top, t) : -1;
                if (p != -1 && time(p).compareTo(time(top).times(told.c, 100)) >= 0) return t;
            }
            return -1;
        }

        int head(int top) {
            int in = drownedIn(top);
            return in == -1 ? top : head(in);
        }

        boolean outlasts(int v, int k, int top) {
            return Part.of(v, k).times(told.b, 1).compareTo(time(top).times(told.a, 1)) >= 0;
        }

        int feeder(int top, List<Integer> from) {
            for (int r : from) {
                int[] one = risers.get(r);
                if (outlasts(one[1], one[2], top) && head(summit(one[0])) == head(top)) return r;
            }
            return -1;
        }

        List<Integer> numbers(int set) {
            List<Integer> all = new ArrayList<>();
            for (int r = 0; r < risers.size(); r++) if ((set >> r & 1) == 1) all.add(r);
            return all;
        }

        int fed(int set) {
            List<Integer> from = numbers(set);
            return bits(s -> isTop(s) && feeder(s, from) != -1);
        }

        int section(int s, int what) {
            if (bad(s)) return -2;
            switch (what) {
                case 0: return volume.get(s);
                case 1: return told.skin.get(s);
                case 2: return chills.get(s);
                case 3: return bits(t -> joined(s, t));
                case 4: return time(s).above.intValue();
                case 5: return time(s).below.intValue();
                case 6: return isTop(s) ? 1 : 0;
                case 7: return summit(s);
                case 8: return path(s).size() - 1;
                default: return -3;
            }
        }

        int top(int s, int what) {
            if (bad(s)) return -2;
            if (what < 0 || what > 4) return -3;
            if (!isTop(s)) return -4;
            switch (what) {
                case 0: return bits(t -> summit(t) == s);
                case 1: return drownedIn(s);
                case 2: return head(s);
                case 3: return fed(63) >> s & 1;
                default: return feeder(s, numbers(63));
            }
        }

        int riser(int r, int what) {
            if (r < 0 || r >= risers.size()) return -2;
            if (what < 0 || what > 3) return -3;
            return what < 3 ? risers.get(r)[what] : fed(63) ^ fed(63 & ~(1 << r));
        }

        int need(int s, int k) {
            if (bad(s)) return -2;
            if (k < 1 || k > 99) return -3;
            if (!isTop(s)) return -4;
            Part least = time(s).times((long) told.a * k, told.b);
            BigInteger v = least.above.add(least.below).subtract(BigInteger.ONE).divide(least.below);
            return v.intValue() > 999 ? -1 : v.intValue();
        }

        int best(int m, int what) {
            if (m < 1 || m > 9 || what < 0 || what > 1) return -3;
            int found = -1;
            int fewest = 99;
            List<Integer> before = chills;
            for (int s = n() - 1; s >= 0; s--) {
                chills = new ArrayList<>(before);
                chills.set(s, Math.min(9, chills.get(s) + m));
                int tops = Integer.bitCount(bits(this::isTop));
                if (tops <= fewest) {
                    fewest = tops;
                    found = s;
                }
            }
            chills = before;
            return found == -1 || what == 0 ? found : fewest;
        }

        int least(int what) {
            if (what < 0 || what > 1) return -3;
            int all = (1 << risers.size()) - 1;
            int target = fed(all);
            for (int size = 0; size <= risers.size(); size++) {
                for (int set = 0; set <= all; set++) {
                    if (Integer.bitCount(set) == size && fed(set) == target) return what == 0 ? set : size;
                }
            }
            throw new IllegalStateException();
        }

        int count(int what) {
            switch (what) {
                case 0: return n();
                case 1: return told.joints.size();
                case 2: return risers.size();
                case 3: return bits(this::isTop);
                case 4: return bits(s -> isTop(s) && drownedIn(s) != -1);
                case 5: return fed(63);
                case 6: return fed(63) == bits(this::isTop) ? 1 : 0;
                case 7: return told.a;
                case 8: return told.b;
                case 9: return told.c;
                case 10: return bins.stream().mapToInt(b -> b == null ? 0 : b.size()).sum();
                case 11: return past.size();
                case 12: return text.length();
                default: return -3;
            }
        }

        void remember() {
            past.push(new Snap(chills, risers));
            if (past.size() > 8) past.removeLast();
        }

        void restore(Snap s) {
            chills = new ArrayList<>(s.chills);
            risers = new ArrayList<>(s.risers);
        }

        int act(String name, int p, int q, int r) {
            switch (name) {
                case "put":
                    if (bad(p)) return -2;
                    if (q < 1 || q > 99 || r < 1 || r > 99) return -3;
                    if (risers.size() == 6) return -5;
                    remember();
                    risers.add(new int[] {p, q, r});
                    return risers.size() - 1;
                case "take":
                    if (p < 0 || p >= risers.size()) return -2;
                    remember();
                    risers.remove(p);
                    return risers.size();
                case "move":
                    if (bad(p) || bad(q) || p == q) return -2;
                    if (r < 1 || r > 9) return -3;
                    if (chills.get(p) - r < 0 || chills.get(q) + r > 9) return -4;
                    remember();
                    chills.set(p, chills.get(p) - r);
                    chills.set(q, chills.get(q) + r);
                    return chills.get(q);
                case "chill":
                    if (bad(p)) return -2;
                    if (q < 0 || q > 9) return -3;
                    if (chills.get(p) == q) return -4;
                    remember();
                    chills.set(p, q);
                    return Integer.bitCount(bits(this::isTop));
                case "undo":
                    if (past.isEmpty()) return -4;
                    restore(past.pop());
                    return past.size();
                case "keep":
                    if (p < 0 || p > 1) return -2;
                    kept[p] = new Snap(chills, risers);
                    return risers.size();
                default:
                    if (p < 0 || p > 1) return -2;
                    if (kept[p] == null) return -4;
                    restore(kept[p]);
                    past.clear();
                    return risers.size();
            }
        }

        int bin(String name, int p, int q, int r) {
            if (p < 0 || p > 2 || name.equals("pour") && (q < 0 || q > 2 || p == q)) return -2;
            List<Integer> b = bins.get(p);
            switch (name) {
                case "bin":
                    if (q < 0 || q > 1) return -3;
                    bins.set(p, new ArrayList<>());
                    kinds[p] = q;
                    return 0;
                case "addWhole": return q < -999 || q > 999 ? -3 : add(p, 0, q + 20000);
                case "addPair": return q < 0 || q > 99 || r < 0 || r > 99 ? -3 : add(p, 1, 100 * q + r);
                case "find":
                    if (q < 0 || q > 2) return -3;
                    if (b == null) return -11;
                    if (b.isEmpty()) return -13;
                    return q == 0 ? Collections.max(b) : q == 1 ? Collections.min(b) : b.get(b.size() - 1);
                case "pop": return b == null ? -11 : b.isEmpty() ? -13 : b.remove(b.size() - 1);
                case "sort":
                    if (b == null) return -11;
                    Collections.sort(b);
                    return b.size();
                case "pour":
                    List<Integer> other = bins.get(q);
                    if (b == null || other == null) return -11;
                    if (kinds[p] != kinds[q]) return -12;
                    if (b.size() + other.size() > 8) return -14;
                    other.addAll(b);
                    return other.size();
                case "sum": return b == null ? -11 : b.stream().mapToInt(v -> v).sum();
                case "drop":
                    bins.set(p, null);
                    return b == null ? -11 : b.size();
                default: throw new IllegalStateException(name);
            }
        }

        int add(int p, int kind, int thing) {
            List<Integer> b = bins.get(p);
            if (b == null) return -11;
            if (kinds[p] != kind) return -12;
            if (b.size() == 8) return -14;
            b.add(thing);
            return b.size();
        }
    }
}
