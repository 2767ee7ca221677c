import java.io.IOException;
import java.nio.file.Files;
import java.nio.file.Path;
import java.util.ArrayList;
import java.util.LinkedHashSet;
import java.util.List;
import java.util.NoSuchElementException;
import java.util.Set;

/**
 * What the tests of boundaries share. Each test bears the words of the document whose boundary it
 * tests; that the document has these words is tested too, so that no test outlives its sentence.
 */
abstract class Sentences {
    static final int NONE = -1;
    static final int MIN = Integer.MIN_VALUE;
    static final int MAX = Integer.MAX_VALUE;

    private static final Path DOCUMENT = Path.of("../shared/DOC.md");

    private final Set<String> tested = new LinkedHashSet<>();
    private final Set<String> broken = new LinkedHashSet<>();
    private final List<String> faults = new ArrayList<>();
    private final String document = readDocument();
    private String sentence = "";
    private int answers;

    /** Calls sentence(..) for each sentence that the class tests. */
    abstract void testAll();

    /** The sentences whose tests fail. */
    final Set<String> findBroken() {
        testAll();
        return broken;
    }

    final Set<String> testedSentences() {
        return tested;
    }

    /** Runs all tests, prints what is wrong, and ends with exit code 1 if there was something. */
    final void report() {
        findBroken();
        for (String fault : faults) {
            System.out.println(fault);
        }
        System.out.println(tested.size() + " sentences are tested, " + broken.size() + " are broken");
        System.exit(broken.isEmpty() && !tested.isEmpty() ? 0 : 1);
    }

    final void sentence(String words, Runnable test) {
        sentence = words;
        answers = 0;
        if (!tested.add(words)) {
            wrong("is tested twice under one name");
        }
        if (document != null && !document.contains(words)) {
            wrong("these words are not in the document");
        }
        try {
            test.run();
        } catch (RuntimeException e) {
            wrong("a call threw " + e);
        }
        if (answers == 0) {
            wrong("no answer was looked at");
        }
    }

    private void wrong(String what) {
        broken.add(sentence);
        faults.add("'" + sentence + "': " + what);
    }

    private static String readDocument() {
        try {
            return Files.exists(DOCUMENT) ? Files.readString(DOCUMENT) : null;
        } catch (IOException e) {
            return null;
        }
    }

    final void due(String call, long got, long want) {
        answers++;
        if (got != want) {
            wrong(call + " answered " + got + ", due is " + want);
        }
    }

    final void due(String call, boolean got, boolean want) {
        answers++;
        if (got != want) {
            wrong(call + " answered " + got + ", due is " + want);
        }
    }

    final void dueThrow(WicketBoard x, int u, int what) {
        boolean thrown = false;
        try {
            x.about(u, what);
        } catch (NoSuchElementException e) {
            thrown = true;
        }
        due("about(" + u + ", " + what + ") throws", thrown, true);
    }

    /** The UMPIRES of the SEATS, and for each UMPIRE among them the SEAT. */
    final void dueSeats(WicketBoard x, int... umpires) {
        for (int s = 0; s < umpires.length; s++) {
            due("seat(" + s + ")", x.seat(s), umpires[s]);
            if (umpires[s] != NONE) {
                due("about(" + umpires[s] + ", 1)", x.about(umpires[s], 1), s);
            }
        }
    }

    /** How many MARKS, how often they count, and all of them. */
    final void dueMarks(WicketBoard x, int u, int given, int times, int sum) {
        due("about(" + u + ", 3)", x.about(u, 3), given);
        due("about(" + u + ", 4)", x.about(u, 4), times);
        due("about(" + u + ", 5)", x.about(u, 5), sum);
    }

    final void dueRules(WicketBoard x, int... values) {
        for (int k = 0; k < values.length; k++) {
            due("rule(" + k + ")", x.rule(k), values[k]);
        }
    }

    final void dueFault(String text, int place, int kind) {
        WicketBoard x = new WicketBoard();
        due("rules() of '" + text + "'", say(x, text), -1 - place);
        due("fault() of '" + text + "'", x.fault(), kind);
    }

    final void dueTold(String text, int told) {
        WicketBoard x = new WicketBoard();
        due("rules() of '" + text + "'", say(x, text), told);
        due("fault() of '" + text + "'", x.fault(), 0);
    }

    /** Puts the text behind the tape, in twenties; what fills the last twenty is cut off. */
    static void put(WicketBoard x, String text) {
        int before = x.count(5);
        for (int from = 0; from < text.length(); from += 20) {
            int[] row = new int[5];
            for (int i = 0; i < 20; i++) {
                int sign = from + i < text.length() ? text.charAt(from + i) & 255 : 'Z';
                row[i / 4] = row[i / 4] << 8 | sign;
            }
            x.feed(row[0], row[1], row[2], row[3], row[4]);
        }
        x.end(before + text.length());
    }

    static int say(WicketBoard x, String text) {
        put(x, text);
        return x.rules();
    }

    static WicketBoard boardWith(String rules) {
        WicketBoard x = new WicketBoard();
        if (say(x, rules) < 0) {
            throw new IllegalStateException("the test's own rules are wrong: " + rules);
        }
        return x;
    }

    static String blanks(int n) {
        return " ".repeat(n);
    }
}
