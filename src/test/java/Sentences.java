import java.io.IOException;
import java.nio.file.Files;
import java.nio.file.Path;
import java.util.Map;
import java.util.NoSuchElementException;
import java.util.TreeMap;

/**
 * Tests of single sentences of the document. Each test names its promise (TERMS: what stands ahead of promise 1) and the
 * sentence by its own words; words that are not in that section of the document are wrong, too.
 */
final class Sentences {
    static final int TERMS = 0;
    static final int NONE = ColumnGrammar.NONE;
    static final long ALL = (1L << 40) - 1;
    /** What a call of rule() counts as that throws NoSuchElementException. */
    static final long THROWN = -777;
    static final int LEAST = Integer.MIN_VALUE;
    static final int MOST = Integer.MAX_VALUE;
    /** 20 TOKENS, in four LINES. */
    static final String FULL = "xxxxx\nxxxxx\nxxxxx\nxxxxx";
    static final String BLOCKS = "B:=L/=L=B;L:='x/='x'{>B";

    interface Making {
        ColumnGrammar anew();
    }

    interface Call {
        long on(ColumnGrammar x);
    }

    private final Map<Integer, String> sections = new TreeMap<>();
    private final Map<Integer, Integer> tests = new TreeMap<>();
    private int promise;
    private String words = "";
    private int right;
    private int wrong;

    Sentences() {
        Path document = Path.of("../shared/DOC.md");
        try {
            String all = Files.exists(document) ? Files.readString(document) : "";
            String[] parts = all.split("## Promise ");
            for (int k = 0; k < parts.length && !all.isEmpty(); k++) {
                sections.put(k, parts[k].replaceAll("\\s+", " "));
            }
        } catch (IOException e) {
            System.out.println("the document can't be read; no words are looked up");
        }
    }

    /** What is due from here on is a test of these words. */
    void of(int newPromise, String newWords) {
        promise = newPromise;
        words = newWords;
        tests.merge(promise, 1, Integer::sum);
        if (!sections.isEmpty() && !sections.getOrDefault(promise, "").contains(words)) {
            wrong++;
            System.out.println("not in the document: " + title());
        }
    }

    private String title() {
        return (promise == TERMS ? "Terms" : "promise " + promise) + ", \"" + words + "\"";
    }

    void due(String call, long got, long want) {
        if (got == want) {
            right++;
        } else {
            wrong++;
            System.out.println(title() + ": " + call + " answered " + got + ", due is " + want);
        }
    }

    void due(String call, boolean got, boolean want) {
        due(call, got ? 1 : 0, want ? 1 : 0);
    }

    void due(String call, String got, String want) {
        if (got.equals(want)) {
            right++;
        } else {
            wrong++;
            System.out.println(title() + ": " + call + " is\n" + got + "\ndue is\n" + want);
        }
    }

    /** THE TEXT has a FAULT at a place as a GRAMMAR. */
    void fault(String grammar, int place) {
        due("grammar() of " + grammar, Due.grammar(new ColumnGrammar(), grammar), -1000 - place);
    }

    void reads(String grammar, int rules) {
        due("grammar() of " + grammar, Due.grammar(new ColumnGrammar(), grammar), rules);
    }

    /** The call answers so, and later calls show all as they do without it. */
    void refused(String name, Making making, Call call, long want) {
        ColumnGrammar x = making.anew();
        due(name, call.on(x), want);
        due("after " + name + " all that is shown", Shown.all(x), Shown.all(making.anew()));
    }

    void tokens(ColumnGrammar x, String want) {
        due("the TOKENS", Shown.tokens(x), want);
    }

    static long rule(ColumnGrammar x, int rule, int what) {
        try {
            return x.rule(rule, what);
        } catch (NoSuchElementException e) {
            return THROWN;
        }
    }

    static long truth(boolean b) {
        return b ? 1 : 0;
    }

    static String blanks(int n) {
        return " ".repeat(n);
    }

    /** A text with its first sign at one COLUMN of LINE 0, its second at another of LINE 1, and so on. */
    static String lines(String signs, int... columns) {
        StringBuilder b = new StringBuilder();
        for (int k = 0; k < signs.length(); k++) {
            b.append(k > 0 ? "\n" : "").append(blanks(columns[k])).append(signs.charAt(k));
        }
        return b.toString();
    }

    /** Something of everything, and it FITS: three ACTS, THE LINE, THE TEXT, both kept. */
    static ColumnGrammar rich() {
        ColumnGrammar x = Due.made("A:'k/", "k");
        x.keep(0);
        Due.grammar(x, BLOCKS);
        Due.text(x, "x{\n   x\n  x\n\nx");
        x.keep(1);
        x.move(2, 1);
        x.put(4, 7, 'q');
        x.print();
        x.take(5);
        Due.type(x, "\nd m ");
        return x;
    }

    /** The same, but it does not FIT; four ACTS. */
    static ColumnGrammar broken() {
        ColumnGrammar x = rich();
        x.move(2, -1);
        return x;
    }

    /** 20 TOKENS, the greatest in COLUMN 39, that FIT; one ACT. */
    static ColumnGrammar full() {
        ColumnGrammar x = Due.made("A:BBBB;B:'x'x'x'x'x", FULL);
        x.move(3, 35);
        x.keep(1);
        return x;
    }

    /** TOKENS and no GRAMMAR; one ACT. */
    static ColumnGrammar withoutGrammar() {
        ColumnGrammar x = new ColumnGrammar();
        Due.text(x, "x y\n z");
        x.move(1, 1);
        return x;
    }

    /** A GRAMMAR and no TOKENS; one ACT. */
    static ColumnGrammar withoutTokens() {
        ColumnGrammar x = Due.made("A:'xA/", "x");
        x.take(0);
        return x;
    }

    /** Ends with 1 if an answer was not as due, or a promise from the first to the last has no test, but for the one left out. */
    void finish(int firstPromise, int lastPromise, int leftOut) {
        for (int p = firstPromise; p <= lastPromise; p++) {
            if (p != leftOut && !tests.containsKey(p)) {
                wrong++;
                System.out.println("promise " + p + " has no test");
            }
        }
        int sentences = tests.values().stream().mapToInt(n -> n).sum();
        System.out.println(sentences + " sentences, " + right + " answers as due, " + wrong + " not");
        if (wrong != 0 || right == 0) {
            System.exit(1);
        }
    }

    void finish(int firstPromise, int lastPromise) {
        finish(firstPromise, lastPromise, NONE);
    }
}
