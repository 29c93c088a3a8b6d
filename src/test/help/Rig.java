import java.lang.annotation.Retention;
import java.lang.annotation.RetentionPolicy;
import java.lang.reflect.InvocationTargetException;
import java.lang.reflect.Method;
import java.util.ArrayList;
import java.util.List;
import java.util.function.Supplier;
import java.util.function.ToIntFunction;

/** What the hand-worked tests share: answers held against those that are due, texts typed and cast, refusals that change nothing. */
abstract class Rig {
    protected static final int NONE = -1, UNKNOWN = -2, OUTSIDE = -3, NOT = -4, FULL = -5, NULL = -11, KIND = -12, EMPTY = -13, ROOM = -14;
    /** Far beyond every bound of the document but that of order(): whatever adds to them, or takes away, wraps around. */
    protected static final int[] FAR = {Integer.MIN_VALUE, Integer.MIN_VALUE + 1, -1000, Integer.MAX_VALUE - 1, Integer.MAX_VALUE};

    protected static int wrong = 0;
    protected static String promise = "";

    /** The words of the document that a test stands for; promise 0 are the terms, -1 the opening. */
    @Retention(RetentionPolicy.RUNTIME)
    @interface Says {
        int promise();
        String value();
    }

    protected static void due(String call, int got, int want) {
        if (got != want) {
            fail(call + " answered " + got + ", due is " + want);
        }
    }

    protected static void due(String call, String got, String want) {
        if (!got.equals(want)) {
            fail(call + " answered " + got + ", due is " + want);
        }
    }

    protected static void fail(String what) {
        wrong++;
        System.out.println(promise + ": " + what);
    }

    /** Runs the test of each sentence, and looks that no word of these promises is left without one. */
    protected static void runSentences(Class<?> tests, int first, int last) throws Exception {
        Sentences sentences = new Sentences(first, last);
        List<Method> all = new ArrayList<>();
        for (Method test : tests.getDeclaredMethods()) {
            if (test.isAnnotationPresent(Says.class)) {
                all.add(test);
            }
        }
        // The longest words first, so that short ones ("NONE") do not take a place inside of them.
        all.sort((one, other) -> other.getAnnotation(Says.class).value().length() - one.getAnnotation(Says.class).value().length());
        for (Method test : all) {
            Says says = test.getAnnotation(Says.class);
            promise = says.promise() + " \"" + says.value() + "\"";
            sentences.quote(says.promise(), says.value());
            runOne(test);
        }
        promise = "the document";
        for (String fault : sentences.faults()) {
            fail(fault);
        }
        end(all.size() + " sentences");
    }

    private static void runOne(Method test) throws IllegalAccessException {
        try {
            test.setAccessible(true);
            test.invoke(null);
        } catch (InvocationTargetException thrown) {
            fail("threw " + thrown.getCause());
        }
    }

    protected static void end(String what) {
        System.out.println(wrong == 0 ? what + ": all are kept" : wrong + " answers are not as due");
        if (wrong != 0) {
            System.exit(1);
        }
    }

    protected static String repeat(String part, String between, int n) {
        StringBuilder all = new StringBuilder(part);
        for (int i = 1; i < n; i++) {
            all.append(between).append(part);
        }
        return all.toString();
    }

    protected static FeedCheck type(FeedCheck x, String text) {
        for (int i = 0; i < text.length(); i++) {
            x.write(text.charAt(i));
        }
        return x;
    }

    protected static FeedCheck cast(String... texts) {
        FeedCheck x = new FeedCheck();
        for (String text : texts) {
            cast(x, text);
        }
        return x;
    }

    protected static FeedCheck cast(FeedCheck x, String text) {
        type(x, text);
        due("casting of '" + text + "'", x.casting(), text.split(";").length);
        return x;
    }

    protected static void dueText(String text, int place) {
        dueText(new FeedCheck(), text, place);
    }

    /** The fault of a text, and that casting() agrees; a text with a fault stays, and is erased here. */
    protected static void dueText(FeedCheck x, String text, int place) {
        type(x, text);
        due("fault of '" + text + "'", x.fault(), place);
        if (place != NONE) {
            due("casting of '" + text + "'", x.casting(), NOT);
            due("letters of '" + text + "'", x.count(12), text.length());
        }
        x.erase();
    }

    /**
     * Something of all there is: three sections (tops 0 and 2), risers, chills, things to undo, a kept casting, two bins
     * of either kind and a missing one, a text that waits.
     */
    protected static FeedCheck busy() {
        FeedCheck x = cast("section 40 20;section 9 9;section 60 25;joint 0 1;joint 1 2;riser 2 50 15;chill 1 2");
        x.put(0, 90, 20);
        x.keep(0);
        x.chill(0, 1);
        x.move(1, 2, 1);
        x.put(1, 7, 8);
        x.take(1);
        x.bin(0, 0);
        x.addWhole(0, 5);
        x.addWhole(0, -5);
        x.bin(1, 1);
        x.addPair(1, 9, 8);
        x.addPair(1, 7, 6);
        return type(x, "section 3 4;rule 7 8 9");
    }

    /** One object with the refused call and one without: both must answer alike from then on. */
    protected static void refused(Supplier<FeedCheck> made, String call, ToIntFunction<FeedCheck> ask, int answer) {
        FeedCheck with = made.get();
        due(call, ask.applyAsInt(with), answer);
        due("all behind " + call, picture(with), picture(made.get()));
    }

    protected static void refused(String call, ToIntFunction<FeedCheck> ask, int answer) {
        refused(Rig::busy, call, ask, answer);
    }

    /** All that can be asked, then what undo(), back(), pop() and casting() bring to light; below 300 calls for busy(). */
    protected static String picture(FeedCheck x) {
        StringBuilder all = new StringBuilder();
        for (int what = 0; what <= 12; what++) {
            all.append(x.count(what)).append(' ');
        }
        all.append(freezing(x)).append(" fault ").append(x.fault());
        for (int i = 0; i < 9; i++) {
            int left = x.undo();
            all.append(" undo ").append(left);
            if (left < 0) {
                break;
            }
            all.append(' ').append(fit(x));
        }
        for (int k = 0; k < 2; k++) {
            all.append(" back ").append(x.back(k)).append(' ').append(fit(x));
        }
        for (int bin = 0; bin < 3; bin++) {
            all.append(" bin ").append(things(x, bin));
        }
        return all.append(" casting ").append(x.casting()).append(' ').append(x.count(0)).append(' ').append(x.count(9)).toString();
    }

    private static String freezing(FeedCheck x) {
        StringBuilder all = new StringBuilder();
        int sections = x.count(0);
        for (int s = 0; s < sections; s++) {
            all.append("section");
            for (int what = 0; what <= 8; what++) {
                all.append(' ').append(x.section(s, what));
            }
            all.append(" top");
            for (int what = 0; what <= 4; what++) {
                all.append(' ').append(x.top(s, what));
            }
            all.append(' ');
        }
        return all.append(fit(x)).toString();
    }

    /** Risers and chills: what put(), take(), move(), chill() change. */
    protected static String fit(FeedCheck x) {
        StringBuilder all = new StringBuilder("chills");
        int sections = x.count(0);
        for (int s = 0; s < sections; s++) {
            all.append(' ').append(x.section(s, 2));
        }
        all.append(" risers");
        int risers = x.count(2);
        for (int r = 0; r < risers; r++) {
            all.append(' ').append(x.riser(r, 0)).append('/').append(x.riser(r, 1)).append('/').append(x.riser(r, 2));
        }
        return all.toString();
    }

    /** The things of a bin, the last first, which empties it, and what a whole is answered there then. */
    protected static String things(FeedCheck x, int bin) {
        StringBuilder all = new StringBuilder();
        int thing = x.pop(bin);
        for (int i = 0; i < 8 && thing >= 0; i++) {
            all.append(thing).append(' ');
            thing = x.pop(bin);
        }
        return all.append(thing).append(' ').append(x.addWhole(bin, 0)).toString();
    }
}
