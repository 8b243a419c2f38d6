/** The boundary cases that promises 33 to 39 name, a test for each sentence. */
public final class KeptBoundariesTest {
    private static final int NONE = Sentences.NONE;
    private static final int LEAST = Sentences.LEAST;
    private static final int MOST = Sentences.MOST;
    private static final Sentences S = new Sentences();

    public static void main(String[] args) {
        p33Moves();
        p33BeyondTheColumns();
        p33LeastSize();
        p33FirstLine();
        p33BelowZero();
        p33None();
        p34Print();
        p35Letter();
        p36Keep();
        p36Others();
        p37Again();
        p37Others();
        p38Alike();
        p38None();
        p39Counts();
        p39Others();
        S.finish(33, 39);
    }

    private static void repair(String grammar, String text, int line, int by) {
        ColumnGrammar x = Due.made(grammar, text);
        S.due("repair(0) of " + grammar, x.repair(0), line);
        S.due("repair(1) of " + grammar, x.repair(1), line == NONE ? NONE : 100 + by);
    }

    private static void p33Moves() {
        S.of(33, "of all LINES that have TOKENS and all moves of one of them (-6 .. 6, not 0;");
        for (int by = 1; by <= 7; by++) {
            boolean can = by <= 6;
            repair("S:='x='y", Sentences.lines("xy", 10, 10 + by), can ? 0 : NONE, by);
            repair("S:='x='y", Sentences.lines("xy", 10 + by, 10), can ? 0 : NONE, -by);
            // The x and the w hold one another, so it is the LINE of the y.
            repair("S:='x='w='y", Sentences.lines("xwy", 10, 10, 10 + by), can ? 2 : NONE, -by);
            repair("S:='x='w='y", Sentences.lines("xwy", 10, 10, 10 - by), can ? 2 : NONE, by);
        }
        repair("S:='x='y", "\n\n\nx\n\n y", 3, 1);
        repair("S:='w='x='y", "\n\n\nw\n\nx\n\n\n y", 8, -1);
    }

    private static void p33BeyondTheColumns() {
        S.of(33, "none of its TOKENS beyond 0 .. 39)");
        String right = "S:='x*'z='y";
        repair(right, Sentences.blanks(35) + "x z\n" + Sentences.blanks(37) + "y", 0, 2);
        repair(right, Sentences.blanks(36) + "x z\n" + Sentences.blanks(38) + "y", 1, -2);
        String left = "S:*'z='x='y";
        repair(left, "  z  x\n   y", 0, -2);
        repair(left, " z  x\n  y", 1, 2);
        repair("S:='a>'b", Sentences.lines("ab", 39, 39), 0, -1);
        repair("S:='a>'b", Sentences.lines("ab", 0, 0), 1, 1);
    }

    private static void p33LeastSize() {
        S.of(33, "by which it would FIT: that of the least size,");
        // The w may go to the x by 3, the x to the y by 2.
        repair("S:='w='x*'y/*'w='x='y", Sentences.lines("wxy", 0, 3, 5), 1, 2);
        repair("S:='w='x*'y/*'w='x='y", Sentences.lines("wxy", 0, 2, 5), 0, 2);
        repair("S:='w='x*'y/*'w='x='y", Sentences.lines("wxy", 10, 4, 3), 1, -1);
    }

    private static void p33FirstLine() {
        S.of(33, "of like ones the first LINE,");
        repair("S:='x='y", Sentences.lines("xy", 3, 5), 0, 2);
        repair("S:='x='y", Sentences.lines("xy", 5, 3), 0, -2);
        repair("S:='w='x*'y/*'w='x='y", Sentences.lines("wxy", 0, 2, 4), 0, 2);
        // LINE 2 could go by -2 as well.
        repair("S:*'v='w='x", Sentences.lines("vwx", 0, 2, 4), 1, 2);
    }

    private static void p33BelowZero() {
        S.of(33, "then the one below 0:");
        // Either may be the deeper one.
        repair("S:='v>'w/>'v='w", Sentences.lines("vw", 5, 5), 0, -1);
        repair("S:='v>'w/>'v='w", Sentences.lines("vw", 39, 39), 0, -1);
        repair("S:='v>'w/>'v='w", Sentences.lines("vw", 0, 0), 0, 1);
        repair("S:A/B;A:='w='a*'c;B:='w*'a='c", Sentences.lines("wac", 6, 4, 8), 0, -2);
        repair("S:A/B;A:='a='w*'c;B:*'a='w='c", Sentences.lines("awc", 0, 6, 12), 0, 6);
        // The w has two LINES 6 below it and two 6 above it: none of these alone is enough.
        repair("S:A/B;A:='a='b='w*'d*'d;B:*'a*'b='w='d='d", Sentences.lines("abwdd", 1, 1, 7, 13, 13), 2, -6);
    }

    private static void p33None() {
        S.of(33, "NONE: it FITS, none, no GRAMMAR, others.");
        for (int what = 0; what < 2; what++) {
            int w = what;
            S.refused("it FITS: repair(" + w + ")", Sentences::rich, x -> x.repair(w), NONE);
            S.refused("no GRAMMAR: repair(" + w + ")", Sentences::withoutGrammar, x -> x.repair(w), NONE);
            S.refused("no TOKENS: repair(" + w + ")", () -> Due.made("A:'x", ""), x -> x.repair(w), NONE);
            S.refused("none: repair(" + w + ")", () -> Due.made("A:'x", "y"), x -> x.repair(w), NONE);
        }
        for (int what : new int[] {-1, 2, LEAST, MOST}) {
            S.refused("repair(" + what + ")", Sentences::broken, x -> x.repair(what), NONE);
        }
        S.refused("repair(0) moves nothing", Sentences::broken, x -> x.repair(0), 1);
        S.refused("repair(1) moves nothing", Sentences::broken, x -> x.repair(1), 99);
    }

    private static void p34Print() {
        S.of(34, "The text PRINTED becomes THE LINE (at first nothing): how many signs.");
        ColumnGrammar x = new ColumnGrammar();
        S.due("at first", x.count(4), 0);
        S.due("letter(0)", x.letter(0), NONE);
        S.due("no TOKENS", x.print(), 0);
        StringBuilder b = new StringBuilder();
        for (int line = 0; line < 20; line++) {
            x.put(line, 39, 'a' + line);
            b.append(line > 0 ? "\n" : "").append(Sentences.blanks(39)).append((char) ('a' + line));
        }
        S.due("the most signs", x.print(), 819);
        S.due("THE LINE", Due.line(x), b.toString());
        x.take(19);
        S.due("it stays", x.count(4), 819);
        S.due("one LINE less", x.print(), 778);
        Due.text(x, "\n\nx");
        S.due("one sign", x.print(), 1);
        Due.text(x, "");
        S.due("no TOKENS", x.print(), 0);
        S.due("count(4)", x.count(4), 0);
    }

    private static void p35Letter() {
        S.of(35, "The i-th sign of THE LINE. NONE.");
        ColumnGrammar x = Due.made("A:", " !\n\n~");
        x.print();
        int[] dues = {32, 33, 10, 126};
        for (int i = 0; i < dues.length; i++) {
            S.due("letter(" + i + ")", x.letter(i), dues[i]);
        }
        for (int i : new int[] {-1, 4, 5, 819, 820, LEAST, MOST}) {
            S.due("letter(" + i + ")", x.letter(i), NONE);
        }
        for (int i : new int[] {-1, 21, 22, LEAST, MOST}) {
            S.refused("letter(" + i + ")", Sentences::rich, y -> y.letter(i), NONE);
        }
        S.due("the last", Sentences.rich().letter(20), 'q');
        Due.text(x, "z");
        x.print();
        S.due("of a shorter one behind its end", x.letter(1), NONE);
    }

    private static void p36Keep() {
        S.of(36, "GRAMMAR, TOKENS are kept under k (0, 1): true;");
        ColumnGrammar x = Sentences.rich();
        S.due("keep(0)", x.keep(0), true);
        S.due("nothing else changes", x.count(5), 3);
        x.take(0);
        Due.grammar(x, "Z:'z");
        S.due("keep(1)", x.keep(1), true);
        x.take(0);
        x.again(0);
        S.tokens(x, Shown.tokens(Sentences.rich()));
        S.due("rule(0, 0)", x.rule(0, 0), 'B');
        x.again(1);
        S.tokens(x, "{0,1 x1,3 x2,3 x4,0");
        S.due("rule(0, 0)", x.rule(0, 0), 'Z');
        Due.text(x, "new");
        x.keep(0);
        x.again(0);
        S.tokens(x, "n0,0 e0,1 w0,2");
        x = new ColumnGrammar();
        S.due("nothing is kept, too", x.keep(1), true);
        Due.grammar(x, "A:");
        Due.text(x, "x");
        S.due("again(1)", x.again(1), true);
        S.due("no RULES", x.count(0), 0);
        S.due("no TOKENS", x.count(1), 0);
        x = Sentences.full();
        x.keep(0);
        Due.text(x, "");
        x.again(0);
        S.due("20 TOKENS", Shown.tokens(x), Shown.tokens(Sentences.full()));
    }

    private static void p36Others() {
        S.of(36, "false: others.");
        for (int k : new int[] {-1, 2, 3, LEAST, MOST}) {
            S.refused("keep(" + k + ")", Sentences::rich, x -> Sentences.truth(x.keep(k)), 0);
        }
    }

    private static void p37Again() {
        S.of(37, "They are as they were kept (nothing can be undone then);");
        for (int k = 0; k < 2; k++) {
            ColumnGrammar x = Sentences.rich();
            S.due("again(" + k + ")", x.again(k), true);
            S.tokens(x, k == 0 ? "k0,0" : "x0,0 {0,1 x1,3 x2,2 x4,0");
            S.due("how many RULES", x.count(0), k == 0 ? 1 : 2);
            S.due("count(5)", x.count(5), 0);
            S.due("undo()", x.undo(), -3);
            S.due("THE TEXT stays", x.count(3), 5);
            S.due("THE LINE stays", x.count(4), 21);
            S.due("fits()", x.fits(), k == 0 ? 1 : 0);
            x.take(0);
            S.due("an ACT behind it", x.undo(), 0);
            S.due("it is kept yet", x.again(k), true);
            S.tokens(x, k == 0 ? "k0,0" : "x0,0 {0,1 x1,3 x2,2 x4,0");
        }
    }

    private static void p37Others() {
        S.of(37, "false: others, nothing kept.");
        for (int k : new int[] {-1, 2, 3, LEAST, MOST}) {
            S.refused("again(" + k + ")", Sentences::rich, x -> Sentences.truth(x.again(k)), 0);
        }
        S.refused("nothing kept under 0", Sentences::full, x -> Sentences.truth(x.again(0)), 0);
        S.refused("nothing kept under 0", Sentences::withoutGrammar, x -> Sentences.truth(x.again(0)), 0);
        S.refused("nothing kept under 1", Sentences::withoutGrammar, x -> Sentences.truth(x.again(1)), 0);
    }

    private static void alike(String keptGrammar, String keptText, String grammar, String text, long want) {
        for (int k = 0; k < 2; k++) {
            ColumnGrammar x = Due.made(keptGrammar, keptText);
            x.keep(k);
            Due.grammar(x, grammar);
            Due.text(x, text);
            S.due("alike(" + k + ") of " + keptGrammar + " and " + grammar, x.alike(k), want);
        }
    }

    private static void p38Alike() {
        S.of(38, "alike (NODE by NODE NAME, ALT, i, j, but not COLUMNS): 1, 0.");
        alike("A:'x", "x", "A:'x", "x", 1);
        alike("A:'x", "x", "A:'x", Sentences.blanks(39) + "x", 1);
        alike("A:='x", "x", "A:='x", Sentences.blanks(39) + "x", 1);
        alike("A:='x", "x", "A:*'y", "\n\ny", 1);
        alike("A:B;B:'x", "x", "A:C;C:'x", "x", 0);
        alike("A:B;B:'x", "x", "A:B;C:'x;B:C/'x", "x", 0);
        alike("A:B;B:'x", "x", "A:B;C:;B:'x", "x", 1);
        alike("A:'x/'y", "x", "A:'x/'y", "y", 0);
        alike("S:A'x;A:'x", "xx", "S:'xA;A:'x", "xx", 0);
        alike("S:A'x;A:'x", "xx", "S:AE;A:'x'x;E:", "xx", 0);
        alike("S:'xA;A:'x", "xx", "S:AE;A:'x'x;E:", "xx", 0);
        alike("S:EA;A:'x'x;E:", "xx", "S:AE;A:'x'x;E:", "xx", 1);
        alike("A:B/;B:'x", "", "A:B/;B:'x", "", 1);
        alike("A:B/;B:'x", "", "Z:", "", 1);
        alike("A:B/;B:'x", "", "A:B/;B:'x", "x", 0);
        alike("A:'xA/'x", "xx", "A:'xA/'x", "x", 0);
        alike("A:'x", "x", "A:B;B:'x", "x", 0);
        alike("A:B;B:'x", "x", "A:'x", "x", 0);
        String deepest = "A:B;B:C;C:D;D:E;E:F;F:G;G:H;H:'x/AA";
        alike(deepest, Sentences.FULL, deepest, "x".repeat(20), 1);
        alike(deepest, Sentences.FULL, deepest.replace("H:'x/AA", "H:AA/'x"), Sentences.FULL, 0);
    }

    private static void p38None() {
        S.of(38, "NONE: nothing kept, others, one of both does not FIT or has no GRAMMAR.");
        for (int k : new int[] {-1, 2, 3, LEAST, MOST}) {
            S.refused("alike(" + k + ")", Sentences::rich, x -> x.alike(k), NONE);
        }
        S.refused("nothing kept", Sentences::full, x -> x.alike(0), NONE);
        S.due("kept under 1", Sentences.full().alike(1), 1);
        alike("A:'x", "y", "A:'x", "x", NONE);
        alike("A:'x", "x", "A:'x", "y", NONE);
        alike("A:'x", "y", "A:'x", "y", NONE);
        S.refused("what is kept does not FIT", Sentences::rich, x -> x.alike(1), NONE);
        S.refused("it does not FIT", Sentences::broken, x -> x.alike(0), NONE);
        ColumnGrammar x = new ColumnGrammar();
        x.keep(0);
        S.due("neither has a GRAMMAR", x.alike(0), NONE);
        Due.grammar(x, "A:");
        S.due("what is kept has none", x.alike(0), NONE);
        x.keep(1);
        S.due("both have one", x.alike(1), 1);
        x.again(0);
        S.due("it has none", x.alike(1), NONE);
    }

    private static void p39Counts() {
        S.of(39, "0 RULES, 1 TOKENS, 2 LINES that have TOKENS, 3 signs of THE TEXT, 4 of THE LINE, 5 what can be undone, 6 the "
            + "greatest COLUMN of a TOKEN, 7 the least (6, 7: NONE without TOKENS).");
        counts(new ColumnGrammar(), 0, 0, 0, 0, 0, 0, NONE, NONE);
        counts(Sentences.rich(), 2, 5, 4, 5, 21, 3, 3, 0);
        counts(Sentences.full(), 2, 20, 4, 0, 0, 1, 39, 0);
        counts(Sentences.withoutTokens(), 1, 0, 0, 0, 0, 1, NONE, NONE);
        ColumnGrammar x = Due.made("A:;B:;C:;D:;E:;F:;G:;H:", "");
        for (int line = 0; line < 20; line++) {
            x.put(line, 39, 'x');
        }
        x.print();
        Due.type(x, Sentences.blanks(240));
        counts(x, 8, 20, 20, 240, 819, 10, 39, 39);
        x.text();
        counts(x, 8, 0, 0, 0, 819, 0, NONE, NONE);
        x.put(0, 0, 'x');
        counts(x, 8, 1, 1, 0, 819, 1, 0, 0);
        x.put(0, 1, 'x');
        counts(x, 8, 2, 1, 0, 819, 2, 1, 0);
    }

    private static void counts(ColumnGrammar x, int... dues) {
        for (int what = 0; what < dues.length; what++) {
            S.due("count(" + what + ")", x.count(what), dues[what]);
        }
    }

    private static void p39Others() {
        S.of(39, "NONE: others.");
        for (int what : new int[] {-1, 8, 9, LEAST, MOST}) {
            S.refused("count(" + what + ")", Sentences::rich, x -> x.count(what), NONE);
        }
    }
}
