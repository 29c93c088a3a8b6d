import java.io.IOException;
import java.nio.file.Files;
import java.nio.file.Path;
import java.util.ArrayList;
import java.util.Arrays;
import java.util.List;

/** The document's opening, terms and promises, word by word: which words the tests quote, and which none does. */
final class Sentences {
    private final String document;
    private final int first;
    private final int last;
    private final List<String> bodies = new ArrayList<>();
    private final List<boolean[]> quoted = new ArrayList<>();
    private final List<String> faults = new ArrayList<>();

    Sentences(int first, int last) throws IOException {
        this.document = Files.readString(Path.of("../shared/DOC.md"));
        this.first = first;
        this.last = last;
        for (int promise = first; promise <= last; promise++) {
            String body = said(promise).replaceAll("\\s+", " ");
            bodies.add(body);
            quoted.add(new boolean[body.length()]);
        }
    }

    /** Ahead of the promises stand the opening (-1) and the terms (0). */
    private String said(int promise) {
        switch (promise) {
            case -1: return between("\n## What it is\n", "======== 1 ");
            case 0: return terms();
            default: return promised(promise);
        }
    }

    /** They begin at the end of "What it is"; fences, rules and the notes on the interface say nothing to test. */
    private String terms() {
        String begin = between("======== 1 ", "\n");
        String used = between("\nAn object is used", ";");
        String rest = between("\n## Terms\n", "\n## Promise 1:");
        return (begin + " " + rest + " An object is used" + used).replaceAll("```(text)?", "").replaceAll("======== \\d", "")
            .replaceAll("(?m)^Ahead of the calls.*$", "");
    }

    private String promised(int promise) {
        return between("\n## Promise " + promise + ": ", "\n## ").replaceFirst("(?s)^.*?`[^`]*`:", "");
    }

    private String between(String from, String to) {
        int start = document.indexOf(from);
        if (start < 0) {
            faults.add("'" + from.trim() + "' does not stand there");
            return "";
        }
        start += from.length();
        int end = document.indexOf(to, start);
        return document.substring(start, end < 0 ? document.length() : end);
    }

    void quote(int promise, String words) {
        if (promise < first || promise > last) {
            faults.add("promise " + promise + " is tested elsewhere");
            return;
        }
        int at = free(promise, words);
        if (at < 0) {
            faults.add("promise " + promise + " does not say '" + words + "', or another test says it");
            return;
        }
        Arrays.fill(quoted.get(promise - first), at, at + words.length(), true);
    }

    /** Each test has words of its own: a place that no other one has quoted. */
    private int free(int promise, String words) {
        String body = bodies.get(promise - first);
        boolean[] taken = quoted.get(promise - first);
        int at = body.indexOf(words);
        while (at >= 0 && (taken[at] || taken[at + words.length() - 1])) {
            at = body.indexOf(words, at + 1);
        }
        return at;
    }

    List<String> faults() {
        for (int promise = first; promise <= last; promise++) {
            String body = bodies.get(promise - first);
            StringBuilder left = new StringBuilder();
            for (int i = 0; i < body.length(); i++) {
                left.append(quoted.get(promise - first)[i] ? ' ' : body.charAt(i));
            }
            if (left.toString().matches("(?s).*[A-Za-z0-9].*")) {
                faults.add("promise " + promise + ": no test for '" + left.toString().replaceAll("\\s+", " ").trim() + "'");
            }
        }
        return faults;
    }
}
