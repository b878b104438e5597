import java.io.IOException;
import java.io.UncheckedIOException;
import java.nio.file.Files;
import java.nio.file.Path;
import java.util.Map;
import java.util.TreeMap;
import java.util.function.Supplier;
import java.util.function.ToIntBiFunction;
import java.util.function.ToIntFunction;
import java.util.regex.Matcher;
import java.util.regex.Pattern;

/**
 * Tests by the sentences of the document: each begins with the words that it tests, which must stand
 * there, and in the end no words may be left that none has tested. The terms count as promise 0.
 */
final class Edges {
    private static final Path DOCUMENT = Path.of("../shared/DOC.md");
    private static final int PROMISES = 51;
    private static final int FINDINGS = 7;

    /** What of each section no test has quoted yet. */
    private final Map<Integer, String> untested = new TreeMap<>();
    private String sentence = "";
    private int sentences = 0;
    private int asked = 0;
    private int wrong = 0;

    Edges() {
        String document = document();
        untested.put(0, terms(document));
        Matcher section = Pattern.compile("## Promise (\\d+): [^\\n]*\\n\\n`[^`]*`: ([^\\n]*)").matcher(document);
        while (section.find()) {
            untested.put(Integer.parseInt(section.group(1)), section.group(2));
        }
    }

    private static String document() {
        try {
            return Files.readString(DOCUMENT);
        } catch (IOException e) {
            throw new UncheckedIOException(e);
        }
    }

    /** The terms, and two sentences that stand outside of them and of all promises. */
    private static String terms(String document) {
        String told = document.substring(document.indexOf("## Terms") + 8, document.indexOf("Ahead of the calls `coin`"));
        for (String alone : new String[] {"An object is used for at most 512 calls", "what to do (nothing changes)"}) {
            told += document.contains(alone) ? " " + alone + "." : " missing: " + alone;
        }
        return told.replace("```text", "").replace("```", "").replaceAll("\\s+", " ");
    }

    /** Begins the test of a sentence. */
    void sentence(int promise, String words) {
        sentence = "promise " + promise + ", \"" + words + "\"";
        sentences++;
        String left = untested.getOrDefault(promise, "");
        int at = left.indexOf(words);
        if (at < 0) {
            fails("these words don't stand there, or not so often");
        } else {
            untested.put(promise, left.substring(0, at) + "|" + left.substring(at + words.length()));
        }
    }

    void due(String call, long got, long want) {
        asked++;
        if (got != want) {
            fails(call + " answered " + got + ", due is " + want);
        }
    }

    private void fails(String what) {
        wrong++;
        System.out.println(sentence + ": " + what);
    }

    /** On an object of a world, the call answers a finding, counts it, and changes nothing else. */
    void refused(Supplier<PocketHole> world, String call, ToIntFunction<PocketHole> act, int finding) {
        compare(world, call, act, finding, Check.BEYOND - finding);
    }

    void refused(String call, ToIntFunction<PocketHole> act, int finding) {
        refused(Worlds::rich, call, act, finding);
    }

    /** Refused as BEYOND: one too small, one too large, and the extremes of an int. */
    void beyond(Supplier<PocketHole> world, String call, int least, int most, ToIntBiFunction<PocketHole, Integer> act) {
        for (int v : new int[] {least - 1, most + 1, Integer.MIN_VALUE, Integer.MAX_VALUE}) {
            refused(world, call.replace("?", Integer.toString(v)), x -> act.applyAsInt(x, v), Check.BEYOND);
        }
    }

    void beyond(String call, int least, int most, ToIntBiFunction<PocketHole, Integer> act) {
        beyond(Worlds::rich, call, least, most, act);
    }

    /** On an object of a world, the call answers what is due, and nothing changes by it. */
    void still(Supplier<PocketHole> world, String call, ToIntFunction<PocketHole> act, int want) {
        compare(world, call, act, want, -1);
    }

    void still(String call, ToIntFunction<PocketHole> act, int want) {
        still(Worlds::rich, call, act, want);
    }

    private void compare(Supplier<PocketHole> world, String call, ToIntFunction<PocketHole> act, int want, int counted) {
        PocketHole asked = world.get();
        due(call, act.applyAsInt(asked), want);
        PocketHole twin = world.get();
        for (int which = 0; which < FINDINGS; which++) {
            int more = which == counted ? 1 : 0;
            due("behind " + call + " status(" + which + ")", asked.status(which), twin.status(which) + more);
        }
        alike("behind " + call, asked, twin);
    }

    /** Two objects can't be told from one another (but for status()); both are used up by it. */
    void alike(String what, PocketHole one, PocketHole other) {
        asked++;
        String seen = View.of(one);
        String due = View.of(other);
        if (!seen.equals(due)) {
            int at = 0;
            while (at < seen.length() && at < due.length() && seen.charAt(at) == due.charAt(at)) {
                at++;
            }
            int begin = Math.max(0, at - 60);
            fails(what + " it is not as it was: " + seen.substring(begin, Math.min(at + 20, seen.length()))
                + " / " + due.substring(begin, Math.min(at + 20, due.length())));
        }
    }

    void end() {
        sentence = "the document";
        due("promises", untested.size() - 1, PROMISES);
        for (Map.Entry<Integer, String> section : untested.entrySet()) {
            if (Pattern.compile("[A-Za-z0-9]").matcher(section.getValue()).find()) {
                fails("promise " + section.getKey() + " has words that no test quotes: " + section.getValue());
            }
        }
        System.out.println(sentences + " sentences, " + asked + " answers, " + wrong + " wrong");
        if (wrong != 0) {
            System.exit(1);
        }
    }
}
