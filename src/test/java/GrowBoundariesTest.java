/** The boundary cases that promise 31 names, a test for each sentence; the DRAWS are worked out here once more. */
public final class GrowBoundariesTest {
    private static final int[] SEEDS = {0, 1, 2, 3, 39, 40, 41, 500_000, 999_998, 999_999};
    private static final int NONE = Sentences.NONE;
    private static final int LEAST = Sentences.LEAST;
    private static final int MOST = Sentences.MOST;
    private static final Sentences S = new Sentences();

    /** s of the document. */
    private static final class Draws {
        private long s;

        Draws(int seed) {
            s = seed;
        }

        int of(int m) {
            s = (1103 * s + 12345) % 1_000_003;
            return (int) (s % m);
        }
    }

    public static void main(String[] args) {
        seeds();
        columnOfTheStart();
        altsAtItsColumn();
        itemsThenWhatIsBelow();
        namesAtFreeColumns();
        linesOfTokens();
        drawsOfOne();
        anAct();
        noTokens();
        noSuchSeed();
        noGrammarNoFreeColumn();
        twentyTokens();
        thirtyAbove();
        wrapAround();
        S.finish(31, 31);
    }

    private static void grown(String grammar, int seed, String want) {
        ColumnGrammar x = Due.made(grammar, "q");
        int tokens = want.isEmpty() ? 0 : want.split(" ").length;
        S.due("grow(" + seed + ") of " + grammar, x.grow(seed), tokens);
        S.tokens(x, want);
        S.due("what is grown fits", x.fits(), 1);
    }

    private static void seeds() {
        S.of(31, "GROWN by a seed (0 .. 999,999): TOKENS become those of a NODE of THE START");
        ColumnGrammar x = Due.made("A:='x;B:'y", "q\nq");
        S.due("grow(0)", x.grow(0), 1);
        // 12,345 modulo 40.
        S.tokens(x, "x0,25");
        S.due("grow(999999)", x.grow(999_999), 1);
        // 1,103 times 999,999 and 12,345 are 1,103,011,242; less 1,103 times 1,000,003 that is 7,933.
        S.tokens(x, "x0,13");
    }

    private static void columnOfTheStart() {
        S.of(31, "its COLUMN a DRAW of FREE ones (rising);");
        for (int seed : SEEDS) {
            grown("A:='x", seed, "x0," + new Draws(seed).of(40));
            // FREE is 0 .. 38 only.
            Draws d = new Draws(seed);
            int c = d.of(39);
            d.of(1);
            grown("A:>'x", seed, "x0," + (c + 1 + d.of(39 - c)));
        }
    }

    private static void altsAtItsColumn() {
        S.of(31, "of a NODE a DRAW of those ALTS by which it can be at its COLUMN over any TOKENS, none or more, in order;");
        int last = 0;
        for (int seed = 0; seed < 300; seed++) {
            Draws d = new Draws(seed);
            int c = d.of(40);
            // At COLUMN 39 there is nothing deeper, so the second and third ALT are left.
            int alt = c == 39 ? 1 + d.of(2) : d.of(3);
            String sign = "xyz".substring(alt, alt + 1);
            grown("A:>'x/='y/'z", seed, sign + "0," + (alt == 0 ? c + 1 + d.of(39 - c) : alt == 1 ? c : c + d.of(40 - c)));
            last += c == 39 ? 1 : 0;
        }
        S.due("some stand at COLUMN 39", last > 0, true);
        for (int seed = 0; seed < 60; seed++) {
            Draws d = new Draws(seed);
            int c = d.of(40);
            // Of four; the first ALT of the next RULE is not a fifth one.
            grown("A:='a/='b/='c/='d;B:='e", seed, "abcd".charAt(d.of(4)) + "0," + c);
        }
        for (int seed = 0; seed < 60; seed++) {
            Draws d = new Draws(seed);
            d.of(40);
            // The first ALT never ends; the third is over no TOKENS.
            grown("A:B/='x/;B:'yB", seed, d.of(2) == 0 ? "x0," + new Draws(seed).of(40) : "");
        }
    }

    private static void itemsThenWhatIsBelow() {
        S.of(31, "ITEM by ITEM a DRAW of the COLUMNS that FIT, for a NAME those FREE, too (rising), then what is below;");
        for (int seed : SEEDS) {
            Draws d = new Draws(seed);
            int c = d.of(40);
            d.of(1);
            int[] at = new int[3];
            for (int k = 0; k < 3; k++) {
                at[k] = k == 0 ? c + d.of(40 - c) : k == 1 ? d.of(40) : d.of(1) + c;
                // The one ALT and the one COLUMN of what is below.
                d.of(1);
                d.of(1);
            }
            int second = at[0] < at[1] ? 0 : 1;
            int third = at[1] < at[2] ? second : second + 1;
            grown("A:B*B=B;B:='x", seed, "x0," + at[0] + " x" + second + "," + at[1] + " x" + third + "," + at[2]);
        }
    }

    private static void namesAtFreeColumns() {
        S.of(31, "for a NAME those FREE, too (rising)");
        for (int seed : SEEDS) {
            Draws d = new Draws(seed);
            d.of(40);
            d.of(1);
            int b = d.of(39);
            d.of(1);
            grown("A:*B;B:>'x", seed, "x0," + (b + 1 + d.of(39 - b)));
            d = new Draws(seed);
            int c = d.of(38);
            d.of(1);
            b = c + 1 + d.of(38 - c);
            d.of(1);
            grown("A:>B;B:>'x", seed, "x0," + (b + 1 + d.of(39 - b)));
        }
    }

    private static void linesOfTokens() {
        S.of(31, "a SIGN is a TOKEN at that COLUMN, in the LINE of the one ahead, if that stands at a lower COLUMN, else in the "
            + "next LINE (the first one: LINE 0).");
        ColumnGrammar x = Due.made("A:='x='y='z", "\n\n\nq");
        x.grow(5);
        S.due("the first one", x.token(0, 1), 0);
        S.due("at the same COLUMN", x.token(1, 1), 1);
        S.due("at the same COLUMN", x.token(2, 1), 2);
        Due.grammar(x, "A:='x>'y");
        x.grow(5);
        S.due("deeper", x.token(1, 1), 0);
        Due.grammar(x, "A:>'x='y");
        x.grow(5);
        S.due("less deep", x.token(1, 1), 1);
        int next = 0;
        for (int seed = 0; seed < 200; seed++) {
            Due.grammar(x, "A:='x*'y");
            x.grow(seed);
            boolean deeper = x.token(0, 2) < x.token(1, 2);
            S.due("its LINE", x.token(1, 1), deeper ? 0 : 1);
            next += x.token(1, 2) - x.token(0, 2) == 1 ? 1 : 0;
        }
        S.due("some are one deeper", next > 0, true);
    }

    private static void drawsOfOne() {
        S.of(31, "A DRAW (made also where there is but one) of m: s (at first the seed) becomes (1,103 s and 12,345) modulo "
            + "1,000,003; it is s modulo m.");
        for (int seed : SEEDS) {
            Draws d = new Draws(seed);
            int c = d.of(40);
            d.of(1);
            d.of(1);
            int y = d.of(40);
            grown("A:='x*'y", seed, "x0," + c + " y" + (c < y ? 0 : 1) + "," + y);
        }
    }

    private static void anAct() {
        S.of(31, "An ACT: how many TOKENS.");
        ColumnGrammar x = Sentences.rich();
        Due.grammar(x, "A:'x'y'z");
        S.due("three", x.grow(11), 3);
        S.due("count(1)", x.count(1), 3);
        S.due("count(5)", x.count(5), 4);
        S.due("undo()", x.undo(), 3);
        S.tokens(x, Shown.tokens(Sentences.rich()));
        for (int k = 0; k < 12; k++) {
            x.grow(k);
        }
        S.due("10 can be undone", x.count(5), 10);
    }

    private static void noTokens() {
        S.of(31, "over any TOKENS, none or more, in order;");
        ColumnGrammar x = Due.made("A:B;B:", "q\nq");
        S.due("grow(0)", x.grow(0), 0);
        S.due("count(1)", x.count(1), 0);
        S.due("an ACT", x.undo(), 0);
        S.tokens(x, "q0,0 q1,0");
    }

    private static void noSuchSeed() {
        S.of(31, "-1; -3:");
        for (int seed : new int[] {-1, 1_000_000, 1_000_003, LEAST, MOST}) {
            S.refused("grow(" + seed + ")", Sentences::rich, x -> x.grow(seed), -1);
            S.refused("no GRAMMAR: grow(" + seed + ")", Sentences::withoutGrammar, x -> x.grow(seed), -1);
        }
    }

    private static void noGrammarNoFreeColumn() {
        S.of(31, "no GRAMMAR, THE START has no FREE COLUMN;");
        S.refused("no GRAMMAR", Sentences::withoutGrammar, x -> x.grow(0), -3);
        S.refused("a new object", ColumnGrammar::new, x -> x.grow(999_999), -3);
        S.refused("no FREE COLUMN", () -> acted("A:'xA;B:'x"), x -> x.grow(0), -3);
        S.refused("no FREE COLUMN", () -> acted("A:B'x;B:'xB/'yC;C:'zC"), x -> x.grow(999_999), -3);
    }

    private static ColumnGrammar acted(String grammar) {
        ColumnGrammar x = Due.made(grammar, "x\n x");
        x.move(0, 1);
        return x;
    }

    private static void twentyTokens() {
        S.of(31, "a 21st TOKEN,");
        for (int seed : SEEDS) {
            ColumnGrammar x = Due.made("A:BBBB;B:'x'x'x'x'x", "q");
            S.due("20", x.grow(seed), 20);
            S.due("fits", x.fits(), 1);
            S.refused("21", () -> acted("A:BBBB'y;B:'x'x'x'x'x"), y -> y.grow(seed), -3);
            S.refused("25", () -> acted("A:BBBBB;B:'x'x'x'x'x"), y -> y.grow(seed), -3);
        }
    }

    /** How many x a seed grows, if each of them is followed by three more NODES or by none. */
    private static int signs(int seed, int ahead) {
        Draws d = new Draws(seed);
        d.of(40);
        for (int k = 0; k < ahead; k++) {
            d.of(1);
            d.of(1);
        }
        for (int signs = 1;; signs++) {
            for (int k = 0; k < 4; k++) {
                d.of(1);
            }
            boolean more = d.of(4) < 3;
            d.of(1);
            if (!more) {
                return signs;
            }
            d.of(1);
        }
    }

    /** With S alone ahead of the rounds of three the n-th x is of a NODE with 3 n above it; with S and T with 3 n + 1. */
    private static void thirtyAbove() {
        S.of(31, "a NODE with more than 30 above it.");
        String rounds = "A:B;B:C;C:'xA/'xA/'xA/'x";
        int[] just = new int[2];
        for (int seed = 0; seed < 1500; seed++) {
            ColumnGrammar x = Due.made("S:A;" + rounds, "q");
            int signs = signs(seed, 1);
            S.due("30 above: grow(" + seed + ") by " + signs, x.grow(seed), signs > 10 ? -3 : signs);
            just[0] += signs == 10 ? 1 : 0;
            x = Due.made("S:T;T:A;" + rounds, "q");
            signs = signs(seed, 2);
            S.due("31 above: grow(" + seed + ") by " + signs, x.grow(seed), signs > 9 ? -3 : signs);
            just[1] += signs == 10 ? 1 : 0;
        }
        S.due("some have just 30 above", just[0] > 0, true);
        S.due("some would have just 31 above", just[1] > 0, true);
        int deep = 0;
        while (signs(deep, 2) != 10) {
            deep++;
        }
        int seed = deep;
        S.refused("31 above", () -> acted("S:T;T:A;" + rounds), x -> x.grow(seed), -3);
    }

    private static void wrapAround() {
        S.of(31, "becomes (1,103 s and 12,345) modulo 1,000,003;");
        // Long runs of DRAWS, that s comes by all sizes: 1 and 19 times 1, 20 of 40.
        String twenty = "A:BBBB;B:*'x*'x*'x*'x*'x";
        for (int seed = 999_000; seed <= 999_999; seed += 111) {
            Draws d = new Draws(seed);
            d.of(40);
            d.of(1);
            StringBuilder b = new StringBuilder();
            int line = 0;
            int before = NONE;
            for (int k = 0; k < 20; k++) {
                if (k % 5 == 0) {
                    // B stands at A's COLUMN or deeper; then its ALT.
                    d.of(1);
                    d.of(1);
                }
                int column = d.of(40);
                line += before == NONE || before < column ? 0 : 1;
                b.append(k > 0 ? " " : "").append('x').append(line).append(',').append(column);
                before = column;
            }
            grown(twenty, seed, b.toString());
        }
    }
}
