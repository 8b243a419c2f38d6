/** The boundary cases that promises 19 to 25 name, a test for each sentence. */
public final class TreeBoundariesTest {
    private static final int NONE = Sentences.NONE;
    private static final int LEAST = Sentences.LEAST;
    private static final int MOST = Sentences.MOST;
    /** Over 20 TOKENS 39 spans of eight NODES each, 20 of the spans within one another. */
    private static final String DEEPEST = "A:B;B:C;C:D;D:E;E:F;F:G;G:H;H:'x/AA";
    private static final String BRACKETS = "S:'(*S')/'a";
    private static final Sentences S = new Sentences();

    public static void main(String[] args) {
        p19Nodes();
        p19None();
        p20Node();
        p20TheMost();
        p20Others();
        p21Ways();
        p21AtItsColumn();
        p21OverNoTokens();
        p21Others();
        p22Extent();
        p22LowerColumns();
        p22Others();
        p23Off();
        p23Others();
        p24About();
        p24Others();
        p25Deep();
        p25OtherColumn();
        p25BeginTwo();
        p25Others();
        S.finish(19, 25);
    }

    private static void p19Nodes() {
        S.of(19, "How many NODES THE TREE has (0 without TOKENS).");
        S.due("without TOKENS", Sentences.withoutTokens().nodes(), 0);
        S.due("without TOKENS, NODES over none", Due.made("A:BB;B:C;C:", "").nodes(), 0);
        S.due("one", Due.made("A:'x", "x").nodes(), 1);
        S.due("rich", Sentences.rich().nodes(), 8);
        S.due("the most", Due.made(DEEPEST, Sentences.FULL).nodes(), 312);
    }

    private static void p19None() {
        S.of(19, "NONE: it does not FIT, no GRAMMAR.");
        S.refused("it does not FIT", Sentences::broken, x -> x.nodes(), NONE);
        S.refused("without TOKENS it does not FIT", () -> Due.made("A:'x", ""), x -> x.nodes(), NONE);
        S.refused("no GRAMMAR", Sentences::withoutGrammar, x -> x.nodes(), NONE);
    }

    private static void row(ColumnGrammar x, int k, int... dues) {
        for (int what = 0; what < dues.length; what++) {
            S.due("node(" + k + ", " + what + ")", x.node(k, what), dues[what]);
        }
    }

    private static void p20Node() {
        S.of(20, "Of a NODE its RULE (what 0), ALT (1), first TOKEN i (2), j (3), COLUMN (4), the NODE above it (5; NONE of "
            + "0), how many are above it (6).");
        ColumnGrammar x = Sentences.rich();
        row(x, 0, 0, 1, 0, 5, 0, NONE, 0);
        row(x, 1, 1, 1, 0, 4, 0, 0, 1);
        row(x, 2, 0, 1, 2, 4, 3, 1, 2);
        row(x, 3, 1, 0, 2, 3, 3, 2, 3);
        row(x, 4, 0, 0, 3, 4, 3, 2, 3);
        row(x, 5, 1, 0, 3, 4, 3, 4, 4);
        row(x, 6, 0, 0, 4, 5, 0, 0, 1);
        row(x, 7, 1, 0, 4, 5, 0, 6, 2);
        row(Due.made("A:;B:;C:;D:", ""), 0, NONE, NONE, NONE);
        row(Due.made("A:'a/'b/'c/='x", Sentences.blanks(39) + "x"), 0, 0, 3, 0, 1, 39, NONE, 0);
    }

    private static void p20TheMost() {
        S.of(20, "how many are above it (6).");
        ColumnGrammar x = Due.made(DEEPEST, Sentences.FULL);
        row(x, 0, 0, 0, 0, 20, 0, NONE, 0);
        row(x, 7, 7, 1, 0, 20, 0, 6, 7);
        row(x, 8, 0, 0, 0, 1, 0, 7, 8);
        row(x, 15, 7, 0, 0, 1, 0, 14, 15);
        row(x, 16, 0, 0, 1, 20, 0, 7, 8);
        row(x, 311, 7, 0, 19, 20, 0, 310, 159);
        S.due("behind the last", x.node(312, 0), NONE);
    }

    private static void p20Others() {
        S.of(20, "NONE: others.");
        int[][] wrong = {{-1, 0}, {8, 0}, {LEAST, 0}, {MOST, 0}, {0, -1}, {0, 7}, {7, 7}, {0, LEAST}, {0, MOST}, {0, 5}};
        for (int[] w : wrong) {
            S.refused("node(" + w[0] + ", " + w[1] + ")", Sentences::rich, x -> x.node(w[0], w[1]), NONE);
        }
        S.refused("it does not FIT", Sentences::broken, x -> x.node(0, 0), NONE);
        S.refused("no GRAMMAR", Sentences::withoutGrammar, x -> x.node(0, 0), NONE);
        S.refused("without TOKENS", Sentences::withoutTokens, x -> x.node(0, 0), NONE);
    }

    private static void ways(String grammar, String text, int want) {
        S.due("ways(0) of " + grammar, Due.made(grammar, text).ways(0), want);
    }

    private static void p21Ways() {
        S.of(21, "ALTS and, of each, ends of its ITEMS by which they do");
        ways("A:'x", "x", 1);
        ways("A:'x/'x/'x/'x", "x", 4);
        ways("S:AA;A:'x/'xA", "xx", 1);
        ways("S:AA;A:'x/'xA", "xxx", 2);
        ways("S:AA/AAA;A:'x/'xA", "xxx", 3);
        ways("S:AAAAA/AAAAA/AAAAA/AAAAA;A:'xA/", Sentences.FULL, 4 * 10626);
        ColumnGrammar x = Due.made(DEEPEST, Sentences.FULL);
        S.due("one part alone", x.ways(0), 1);
        S.due("two parts of 20", x.ways(7), 19);
        S.due("the last NODE", x.ways(311), 1);
    }

    private static void p21AtItsColumn() {
        S.of(21, "in how many ways it could be at its COLUMN");
        ways("S:='x/>'x/'x/*'x", "x", 3);
        ways("S:='x/>'x/'x/*'x", " x", 3);
        ways("S:='x/='x", Sentences.blanks(39) + "x", 2);
        S.of(21, "(columns of what is below aside)");
        ways("S:*A;A:'x", Sentences.blanks(39) + "x", 1);
        ways("S:A;A:*'x", "x", 1);
    }

    private static void p21OverNoTokens() {
        S.of(21, "those over no TOKENS, too");
        ways("S:AAAAA;A:/'x", "x", 5);
        ways("S:AAAAA;A:/'x", "xx", 10);
        ways("S:AAAAA;A:/'x", "xxxxx", 1);
        ways("S:EA/AE/EAE/A;A:'x;E:", "x", 4);
        // In how many ways the E itself could be is not asked.
        ways("S:AE;A:'x;E:/F/FF;F:", "x", 1);
    }

    private static void p21Others() {
        S.of(21, "NONE: others.");
        for (int k : new int[] {-1, 8, 312, LEAST, MOST}) {
            S.refused("ways(" + k + ")", Sentences::rich, x -> x.ways(k), NONE);
        }
        S.refused("it does not FIT", Sentences::broken, x -> x.ways(0), NONE);
        S.refused("no GRAMMAR", Sentences::withoutGrammar, x -> x.ways(0), NONE);
        S.refused("without TOKENS", Sentences::withoutTokens, x -> x.ways(0), NONE);
    }

    private static void extent(ColumnGrammar x, int k, int... dues) {
        for (int what = 0; what < dues.length; what++) {
            S.due("extent(" + k + ", " + what + ")", x.extent(k, what), dues[what]);
        }
    }

    private static void p22Extent() {
        S.of(22, "Of the TOKENS of a NODE of THE TREE the first LINE (what 0), the last (1), the least COLUMN (2), the "
            + "greatest (3)");
        ColumnGrammar x = Due.made("S:='a*B*'b;B:='x*'y", "\n" + Sentences.lines("axyb", 39, 20, 0, 7));
        extent(x, 0, 1, 4, 0, 39);
        extent(x, 1, 2, 3, 0, 20);
        x = Due.made("S:'x", "\n\n   x");
        extent(x, 0, 2, 2, 3, 3);
        x = Sentences.rich();
        extent(x, 0, 0, 4, 0, 3);
        extent(x, 2, 1, 2, 3, 3);
        extent(x, 7, 4, 4, 0, 0);
    }

    private static void p22LowerColumns() {
        S.of(22, "how many are at a lower COLUMN than it (4).");
        ColumnGrammar x = Due.made("S:='a*B*'b;B:='x*'y", Sentences.lines("axyb", 39, 20, 0, 7));
        S.due("three", x.extent(0, 4), 3);
        S.due("one", x.extent(1, 4), 1);
        S.due("none is lower than its own", Due.made("S:='a='b*'c", Sentences.lines("abc", 5, 5, 6)).extent(0, 4), 0);
        S.due("one lower", Due.made("S:='a='b*'c", Sentences.lines("abc", 5, 5, 4)).extent(0, 4), 1);
        S.due("not of TOKENS beside it", Due.made("S:*B*'b;B:='x", Sentences.lines("xb", 5, 0)).extent(1, 4), 0);
    }

    private static void p22Others() {
        S.of(22, "NONE: others.");
        int[][] wrong = {{-1, 0}, {8, 0}, {LEAST, 0}, {MOST, 0}, {0, -1}, {0, 5}, {7, 5}, {0, LEAST}, {0, MOST}};
        for (int[] w : wrong) {
            S.refused("extent(" + w[0] + ", " + w[1] + ")", Sentences::rich, x -> x.extent(w[0], w[1]), NONE);
        }
        S.refused("it does not FIT", Sentences::broken, x -> x.extent(0, 0), NONE);
        S.refused("no GRAMMAR", Sentences::withoutGrammar, x -> x.extent(0, 0), NONE);
        S.refused("without TOKENS", Sentences::withoutTokens, x -> x.extent(0, 0), NONE);
    }

    private static void p23Off() {
        S.of(23, "How many NODES of THE TREE that have a TOKEN are by an ITEM with the BOND *.");
        ColumnGrammar x = Due.made(BRACKETS, "((((((\n(((a))\n)))))))");
        int[] dues = {0, 1, 2, 3, 4, 5, 6, 7, 8, 9, 8, 7, 6, 5, 4, 3, 2, 1, 0};
        S.due("19 TOKENS", x.count(1), dues.length);
        for (int token = 0; token < dues.length; token++) {
            S.due("off(" + token + ")", x.off(token), dues[token]);
        }
        x = Due.made("S:A*B>C=D*'e;A:'a;B:'b;C:'c;D:='d", Sentences.lines("abcde", 1, 0, 2, 0, 0));
        int[] one = {0, 1, 0, 0, 0};
        for (int token = 0; token < 5; token++) {
            S.due("off(" + token + ") of " + "abcde".charAt(token), x.off(token), one[token]);
        }
    }

    private static void p23Others() {
        S.of(23, "NONE: no such TOKEN, it does not FIT, no GRAMMAR.");
        for (int token : new int[] {-1, 5, 20, LEAST, MOST}) {
            S.refused("off(" + token + ")", Sentences::rich, x -> x.off(token), NONE);
        }
        S.due("the last TOKEN", Sentences.rich().off(4), 0);
        S.due("the 20th TOKEN", Sentences.full().off(19), 0);
        S.refused("off(20) of 20", Sentences::full, x -> x.off(20), NONE);
        S.refused("it does not FIT", Sentences::broken, x -> x.off(0), NONE);
        S.refused("no GRAMMAR", Sentences::withoutGrammar, x -> x.off(0), NONE);
        S.refused("without TOKENS", Sentences::withoutTokens, x -> x.off(0), NONE);
    }

    private static void p24About() {
        S.of(24, "NODES of THE TREE that begin with a TOKEN (what 0), that end with it (1), that have it (2), the RULE of the "
            + "lowest that has it (3).");
        ColumnGrammar x = Due.made(DEEPEST, Sentences.FULL);
        int[][] dues = {{0, 16, 8, 16, 7}, {1, 16, 8, 24, 7}, {18, 16, 8, 160, 7}, {19, 8, 160, 160, 7}};
        for (int[] d : dues) {
            for (int what = 0; what < 4; what++) {
                S.due("about(" + d[0] + ", " + what + ")", x.about(d[0], what), d[what + 1]);
            }
        }
        x = Due.made("S:'aB'c;B:'b", "abc");
        int[][] few = {{1, 0, 1, 0}, {1, 1, 2, 1}, {0, 1, 1, 0}};
        for (int token = 0; token < 3; token++) {
            for (int what = 0; what < 4; what++) {
                S.due("about(" + token + ", " + what + ")", x.about(token, what), few[token][what]);
            }
        }
    }

    private static void p24Others() {
        S.of(24, "NONE: others, it does not FIT.");
        int[][] wrong = {{-1, 0}, {5, 0}, {20, 0}, {LEAST, 0}, {MOST, 0}, {0, -1}, {0, 4}, {4, 4}, {0, LEAST}, {0, MOST}};
        for (int[] w : wrong) {
            S.refused("about(" + w[0] + ", " + w[1] + ")", Sentences::rich, x -> x.about(w[0], w[1]), NONE);
        }
        S.refused("about(20, 0) of 20", Sentences::full, x -> x.about(20, 0), NONE);
        for (int what = 0; what < 4; what++) {
            int w = what;
            S.refused("it does not FIT: about(0, " + w + ")", Sentences::broken, x -> x.about(0, w), NONE);
            S.refused("no GRAMMAR: about(0, " + w + ")", Sentences::withoutGrammar, x -> x.about(0, w), NONE);
            S.refused("without TOKENS: about(0, " + w + ")", Sentences::withoutTokens, x -> x.about(0, w), NONE);
        }
    }

    private static void tree(String grammar, String text, int what, int want) {
        S.due("tree(" + what + ") of " + grammar, Due.made(grammar, text).tree(what), want);
    }

    private static void p25Deep() {
        S.of(25, "How deep THE TREE is (what 0: most NODES above one another; 0 without any)");
        tree("A:", "", 0, 0);
        tree("A:B;B:C;C:", "", 0, 0);
        tree("A:'x", "x", 0, 1);
        tree("A:BC;B:'x;C:D;D:'y", "xy", 0, 3);
        tree("A:CB;B:'x;C:D;D:'y", "yx", 0, 3);
        tree(DEEPEST, Sentences.FULL, 0, 160);
    }

    private static void p25OtherColumn() {
        S.of(25, "how many NODES stand at another COLUMN than their first TOKEN (1)");
        tree("A:", "", 1, 0);
        tree("A:='x", Sentences.blanks(39) + "x", 1, 0);
        tree("A:'x", "x", 1, 0);
        tree("A:'x", " x", 1, 1);
        tree("A:*'x='y", Sentences.lines("xy", 0, 39), 1, 1);
        tree(DEEPEST, Sentences.FULL, 1, 248);
    }

    private static void p25BeginTwo() {
        S.of(25, "how many first TOKENS of LINES begin two NODES or more (2).");
        tree("A:", "", 2, 0);
        tree("A:'x", "x", 2, 0);
        tree("A:B;B:'x", "x", 2, 1);
        tree("A:BB;B:C;C:'x", "xx", 2, 1);
        tree("A:BB;B:C;C:'x", "x\n\nx", 2, 2);
        tree("A:BB;B:'x", "x\nx", 2, 1);
        tree("A:'yB;B:C;C:'x", "yx", 2, 0);
        tree(DEEPEST, Sentences.FULL, 2, 4);
    }

    private static void p25Others() {
        S.of(25, "NONE: it does not FIT, no GRAMMAR, others.");
        for (int what : new int[] {-1, 3, LEAST, MOST}) {
            S.refused("tree(" + what + ")", Sentences::rich, x -> x.tree(what), NONE);
            S.refused("without TOKENS: tree(" + what + ")", Sentences::withoutTokens, x -> x.tree(what), NONE);
        }
        for (int what = 0; what < 3; what++) {
            int w = what;
            S.refused("it does not FIT: tree(" + w + ")", Sentences::broken, x -> x.tree(w), NONE);
            S.refused("without TOKENS it does not FIT: tree(" + w + ")", () -> Due.made("A:'x", ""), x -> x.tree(w), NONE);
            S.refused("no GRAMMAR: tree(" + w + ")", Sentences::withoutGrammar, x -> x.tree(w), NONE);
        }
    }
}
