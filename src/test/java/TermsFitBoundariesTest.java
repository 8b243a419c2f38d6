/** The boundary cases that the document's Terms name, a test for each sentence: what fits (II), and ACTS (III). */
public final class TermsFitBoundariesTest {
    private static final int TERMS = Sentences.TERMS;
    private static final int NONE = Sentences.NONE;
    private static final long ALL = Sentences.ALL;
    private static final Sentences S = new Sentences();

    public static void main(String[] args) {
        tokensOfNodes();
        bondsOfSigns();
        bondsOfNames();
        signOverOneToken();
        fitsIfWhereHasAny();
        treeAtTheLeastColumn();
        treeByTheFirstAlt();
        treeEndsAreLeast();
        treeItemsAtTheirLeastColumn();
        treeNumbers();
        freeOverNoneOrMore();
        beginningsOverNoneOrMore();
        blameTheFirstToken();
        blameTheEnd();
        tenActs();
        allTokensOfALineMove();
        putWhereNoneIs();
        partedLines();
        printedLines();
        theLineStays();
        workedOutWhenAsked();
        eachWorkedOutWhenAsked();
        smallerTreeBehindAGreaterOne();
        refusedCallsOfTexts();
        refusedNumbersAheadOfTheRest();
        S.finish(TERMS, TERMS);
    }

    private static void tokensOfNodes() {
        S.of(TERMS, "over TOKENS from i up to j (j not among them; i may be j)");
        ColumnGrammar x = Due.made("A:'x/;B:'x'y", "xy");
        S.due("B over both", x.where(1, 0, 2), 1);
        S.due("B over one", x.where(1, 0, 1), 0);
        S.due("A over the x alone", x.where(0, 0, 1), 1);
        S.due("A over the y", x.where(0, 1, 2), 0);
        for (int i = 0; i <= 2; i++) {
            S.due("A over nothing", x.where(0, i, i), ALL);
            S.due("B over nothing", x.where(1, i, i), 0);
        }
    }

    private static long dues(char bond, int d) {
        long at = 1L << d;
        return bond == '=' ? at : bond == '>' ? at - 1 : bond == '*' ? ALL : 2 * at - 1;
    }

    private static void bondsOfSigns() {
        S.of(TERMS, "= d is c; > d is above c; * any; without one d is c or above.");
        for (int d = 0; d < 40; d++) {
            for (char bond : new char[] {'=', '>', '*', ' '}) {
                ColumnGrammar x = Due.made("A:" + bond + "'x", Sentences.blanks(d) + "x");
                S.due("where of " + bond + "'x at " + d, x.where(0, 0, 1), dues(bond, d));
            }
        }
    }

    private static void bondsOfNames() {
        S.of(TERMS, "a NAME is a NODE.");
        for (int d : new int[] {0, 1, 20, 38, 39}) {
            for (char bond : new char[] {'=', '>', '*', ' '}) {
                ColumnGrammar x = Due.made("A:" + bond + "B;B:='x", Sentences.blanks(d) + "x");
                S.due("where of " + bond + "B at " + d, x.where(0, 0, 1), dues(bond, d));
            }
        }
        S.due("deeper than deeper", Due.made("A:>B;B:>'x", "  x").where(0, 0, 1), 1);
        S.due("deeper than deeper", Due.made("A:>B;B:>'x", " x").where(0, 0, 1), 0);
    }

    private static void signOverOneToken() {
        S.of(TERMS, "' SIGN is over one TOKEN, that sign, at its COLUMN;");
        ColumnGrammar x = Due.made("A:'x", "xx");
        S.due("over none", x.where(0, 0, 0), 0);
        S.due("over one", x.where(0, 0, 1), 1);
        S.due("over the other", x.where(0, 1, 2), 3);
        S.due("over two", x.where(0, 0, 2), 0);
        x = Due.made("A:='!/='~", Sentences.lines("!~\"}", 0, 39, 0, 39));
        S.due("of sign 33", x.where(0, 0, 1), 1);
        S.due("of sign 126", x.where(0, 1, 2), 1L << 39);
        S.due("of sign 34", x.where(0, 2, 3), 0);
        S.due("of sign 125", x.where(0, 3, 4), 0);
    }

    private static void fitsIfWhereHasAny() {
        S.of(TERMS, "A text FITS, if WHERE of THE START over all TOKENS has any.");
        S.due("COLUMN 39 alone", Due.made("A:='x", Sentences.blanks(39) + "x").fits(), 1);
        S.due("COLUMN 0 alone", Due.made("A:='x", "x").fits(), 1);
        S.due("none", Due.made("A:>'x", "x").fits(), 0);
        S.due("COLUMN 0 of >", Due.made("A:>'x", " x").fits(), 1);
        S.due("over the first TOKEN alone", Due.made("A:'x", "xy").fits(), 0);
        S.due("over the last TOKEN alone", Due.made("A:'y", "xy").fits(), 0);
        S.due("of another RULE", Due.made("A:'y;B:'x", "x").fits(), 0);
        S.due("over no TOKENS", Due.made("A:", "").fits(), 1);
        S.due("over no TOKENS", Due.made("A:'x;B:", "").fits(), 0);
        S.due("over 20 TOKENS", Due.made("A:'xA/'x", Sentences.FULL).fits(), 1);
        S.due("over 20 TOKENS", Due.made("A:'xA'x/'x", Sentences.FULL).fits(), 0);
    }

    private static void treeAtTheLeastColumn() {
        S.of(TERMS, "THE TREE: THE START's NODE over all at the least COLUMN of WHERE;");
        S.due("COLUMN 39", Due.made("A:='x", Sentences.blanks(39) + "x").node(0, 4), 39);
        S.due("any", Due.made("A:*'x", Sentences.blanks(39) + "x").node(0, 4), 0);
        S.due("the least of two", Due.made("A:='x='x/='x*'x", Sentences.lines("xx", 7, 3)).node(0, 4), 7);
        S.due("the least of all", Due.made("A:='x*'x/*'x='x", Sentences.lines("xx", 7, 3)).node(0, 4), 3);
        S.due("its ALT, not the first", Due.made("A:='x*'x/*'x='x", Sentences.lines("xx", 7, 3)).node(0, 1), 1);
    }

    private static void treeByTheFirstAlt() {
        S.of(TERMS, "of a NODE: its first ALT that does;");
        String four = "A:'y/='x/'x/*'x";
        S.due("the second", Due.made(four, "x").node(0, 1), 1);
        S.due("the third, as COLUMN 0 is the least", Due.made(four, "  x").node(0, 1), 2);
        S.due("the first", Due.made(four, "y").node(0, 1), 0);
        S.due("the fourth", Due.made("A:'a/'b/'c/'x", "x").node(0, 1), 3);
        S.due("the first of like ones", Due.made("A:'x/'x/'x/'x", "x").node(0, 1), 0);
    }

    private static void nodes(ColumnGrammar x, String want) {
        StringBuilder b = new StringBuilder();
        for (int k = 0; k < x.nodes(); k++) {
            b.append(k > 0 ? " " : "").append((char) x.rule(x.node(k, 0), 0)).append(x.node(k, 1));
            b.append(':').append(x.node(k, 2)).append('-').append(x.node(k, 3)).append('@').append(x.node(k, 4));
        }
        S.due("the NODES", b.toString(), want);
    }

    private static void treeEndsAreLeast() {
        S.of(TERMS, "its ITEMS' ends as they are least, the first ITEM's ahead of the second's, and so on;");
        nodes(Due.made("S:AAAAA;A:/'x/'xA", "xxx"), "S0:0-3@0 A2:0-3@0 A2:1-3@0 A1:2-3@0");
        nodes(Due.made("S:AAA;A:'x/'xA", "xxxxx"), "S0:0-5@0 A0:0-1@0 A0:1-2@0 A1:2-5@0 A1:3-5@0 A0:4-5@0");
        // One TOKEN for A would do for A, but not for the B behind it.
        nodes(Due.made("S:AB;A:'x/'x'y;B:'z", "xyz"), "S0:0-3@0 A1:0-2@0 B0:2-3@0");
        nodes(Due.made("S:A'xA;A:/'x/'x'x", "xxx"), "S0:0-3@0 A2:1-3@0");
    }

    private static void treeItemsAtTheirLeastColumn() {
        S.of(TERMS, "each ITEM that is a NAME a NODE at its least COLUMN that FITS.");
        ColumnGrammar x = Due.made("S:='a>B*B=BB;B:'x", Sentences.lines("axxxx", 2, 5, 5, 5, 5));
        nodes(x, "S0:0-5@2 B0:1-2@3 B0:2-3@0 B0:3-4@2 B0:4-5@2");
        nodes(Due.made("S:='a>B;B:'x", Sentences.lines("ax", 38, 39)), "S0:0-2@38 B0:1-2@39");
        nodes(Due.made("S:='aB;B:>'x", Sentences.lines("ax", 38, 39)), "S0:0-2@38 B0:1-2@38");
        nodes(Due.made("S:='a*B;B:='x", Sentences.lines("ax", 39, 0)), "S0:0-2@39 B0:1-2@0");
    }

    private static void treeNumbers() {
        S.of(TERMS, "NODES of it (those over no TOKENS left out) are numbered from 0 on: each ahead of those below it, "
            + "these from the left.");
        nodes(Due.made("S:EAEBE;A:CD;B:'y;C:'x;D:E'x;E:", "xxy"), "S0:0-3@0 A0:0-2@0 C0:0-1@0 D0:1-2@0 B0:2-3@0");
        nodes(Due.made("S:EEEEE/'x;E:", "x"), "S1:0-1@0");
        nodes(Due.made("S:EEEEE;E:", ""), "");
        nodes(Due.made("S:ABCDF;A:'x;B:'x;C:'x;D:'x;F:'x", "xxxxx"),
            "S0:0-5@0 A0:0-1@0 B0:1-2@0 C0:2-3@0 D0:3-4@0 F0:4-5@0");
    }

    private static void freeOverNoneOrMore() {
        S.of(TERMS, "FREE of a NAME: COLUMNS c at which there is a NODE of it over any TOKENS, none or more");
        S.due("none", Due.made("A:", "").free(0), ALL);
        S.due("none, deeper", Due.made("A:>B;B:", "").free(0), ALL >>> 1);
        S.due("one", Due.made("A:='x", "").free(0), ALL);
        S.due("25", Due.made("A:BBBBB;B:CCCCC;C:'x", "").free(0), ALL);
        S.due("never", Due.made("A:'xA", "").free(0), 0);
        S.due("whatever TOKENS there are", Due.made("A:='x", "y").free(0), ALL);
    }

    private static void beginningsOverNoneOrMore() {
        S.of(TERMS, "if there is a NODE of THE START over these and any TOKENS behind them (none, or more; any signs, any "
            + "COLUMNS).");
        S.due("none behind", Due.made("A:'x", "x").goesOn(1), 1);
        S.due("four behind", Due.made("A:'x'y'z'y'z", "x").goesOn(1), 1);
        S.due("one deeper behind COLUMN 38", Due.made("A:='x>'y", Sentences.blanks(38) + "x").goesOn(1), 1);
        S.due("none is deeper than 39", Due.made("A:='x>'y", Sentences.blanks(39) + "x").goesOn(1), 0);
        S.due("any behind COLUMN 39", Due.made("A:='x*'y", Sentences.blanks(39) + "x").goesOn(1), 1);
        S.due("none, and none behind", Due.made("A:", "").goesOn(0), 1);
        S.due("none, and one behind", Due.made("A:'x", "").goesOn(0), 1);
        S.due("none, and no end", Due.made("A:'xA", "").goesOn(0), 0);
        S.due("what is behind in the text is aside", Due.made("A:'x'y", "xq").goesOn(1), 1);
    }

    private static void blameTheFirstToken() {
        S.of(TERMS, "BLAME: the first TOKEN with which the BEGINNING up to it, with it, does not go on;");
        S.due("the first", Due.made("A:'x'y'z", "qyz").blame(0), 0);
        S.due("the second", Due.made("A:'x'y'z", "xqz").blame(0), 1);
        S.due("the last", Due.made("A:'x'y'z", "xyq").blame(0), 2);
        S.due("the first of two", Due.made("A:'x'y'z", "qqz").blame(0), 0);
        S.due("one too many", Due.made("A:'x'y'z", "xyzx").blame(0), 3);
        S.due("by its COLUMN", Due.made("A:='x>'y", Sentences.lines("xy", 3, 3)).blame(0), 1);
        S.due("as nothing deeper can come", Due.made("A:='x>'y", Sentences.blanks(39) + "x").blame(0), 0);
        S.due("the 20th", Due.made("A:'xA/'y", Sentences.FULL.substring(0, 22) + "z").blame(0), 19);
    }

    private static void blameTheEnd() {
        S.of(TERMS, "if all do, but the text does not FIT: the number of TOKENS (the end).");
        S.due("behind two", Due.made("A:'x'y'z", "xy").blame(0), 2);
        S.due("without TOKENS", Due.made("A:'x", "").blame(0), 0);
        S.due("without TOKENS, nothing goes on", Due.made("A:'xA", "").blame(0), 0);
        S.due("behind 20", Due.made("A:'xA/'y", Sentences.FULL).blame(0), 20);
    }

    private static void tenActs() {
        S.of(TERMS, "ACTS on TOKENS (the latest 10 that were done can be undone)");
        for (int acts = 0; acts <= 25; acts++) {
            ColumnGrammar x = Due.made("A:", "x");
            for (int k = 0; k < acts; k++) {
                x.move(0, 1);
            }
            int can = Math.min(acts, 10);
            S.due("count(5) of " + acts, x.count(5), can);
            for (int k = 1; k <= can; k++) {
                S.due("undo() of " + acts, x.undo(), can - k);
                S.due("the COLUMN", x.token(0, 2), acts - k);
            }
            S.due("undo() of " + acts, x.undo(), -3);
            S.due("the COLUMN", x.token(0, 2), acts - can);
        }
    }

    private static void allTokensOfALineMove() {
        S.of(TERMS, "a LINE is MOVED by some COLUMNS (all its TOKENS);");
        ColumnGrammar x = Due.made("A:", "z\nab c\nd");
        x.move(1, 36);
        S.tokens(x, "z0,0 a1,36 b1,37 c1,39 d2,0");
        x.move(1, -36);
        S.tokens(x, "z0,0 a1,0 b1,1 c1,3 d2,0");
    }

    private static void putWhereNoneIs() {
        S.of(TERMS, "a sign is PUT in a LINE at a COLUMN (none being there);");
        ColumnGrammar x = Due.made("A:", "a c\n b");
        S.due("where one is", x.put(0, 2, 'x'), -3);
        S.due("where one is", x.put(1, 1, 'x'), -3);
        S.due("beside it", x.put(0, 1, 'x'), 1);
        S.due("where one is in another LINE", x.put(1, 0, 'x'), 3);
        S.tokens(x, "a0,0 x0,1 c0,2 x1,0 b1,1");
    }

    private static void partedLines() {
        S.of(TERMS, "it and those behind it in its LINE are a new LINE, those of later LINES one later, so that it stands "
            + "at a told COLUMN (all of them moved alike).");
        ColumnGrammar x = Due.made("A:", "z\na b c\nd\n\ne");
        S.due("part(2, 37)", x.part(2, 37), 2);
        S.tokens(x, "z0,0 a1,0 b2,37 c2,39 d3,0 e5,0");
        S.due("part(3, 0)", x.part(3, 0), 3);
        S.tokens(x, "z0,0 a1,0 b2,37 c3,0 d4,0 e6,0");
    }

    private static void printedLines() {
        S.of(TERMS, "PRINTED: LINES that have TOKENS, one behind the other with 10 between, each TOKEN at its COLUMN, 32 "
            + "ahead of it where there is none.");
        ColumnGrammar x = Due.made("A:", "\n\n a  b\n\n\nc\n" + Sentences.blanks(39) + "d\n\n");
        x.print();
        S.due("THE LINE", Due.line(x), " a  b\nc\n" + Sentences.blanks(39) + "d");
        Due.text(x, "\n \n  ");
        S.due("nothing", x.print(), 0);
        S.due("THE LINE", Due.line(x), "");
    }

    private static void theLineStays() {
        S.of(TERMS, "THE LINE stays till the next print() or write().");
        ColumnGrammar x = Sentences.rich();
        String line = "x{\n   x\n   x\nx      q";
        Sentences.Call[] calls = {y -> y.text(), y -> y.grammar(), y -> y.move(0, 1), y -> y.put(0, 39, 'x'), y -> y.take(0),
            y -> y.change(0, 'z'), y -> y.part(1, 0), y -> y.grow(5), y -> y.undo(), y -> Sentences.truth(y.keep(0)),
            y -> Sentences.truth(y.again(1)), y -> y.alike(0), y -> y.repair(0), y -> y.sign(0), y -> Sentences.truth(y.end(0))};
        for (int k = 0; k < calls.length; k++) {
            calls[k].on(x);
            S.due("THE LINE behind call " + k, Due.line(x), line);
        }
        x.write();
        S.due("THE LINE", Due.line(x), Sentences.BLOCKS);
        x.print();
        S.due("THE LINE", Due.line(x), "x{\n   x\n  x\nx");
        x.write();
        S.due("THE LINE", Due.line(x), Sentences.BLOCKS);
    }

    /** One object is asked everything ahead of a change, another is not: both must answer alike behind it. */
    private static void workedOutWhenAsked() {
        S.of(TERMS, "THE TREE, BLAME and the like are worked out as things are when they are asked.");
        Sentences.Call[] changes = {y -> y.move(2, 1), y -> y.move(2, -1), y -> y.put(4, 7, 'x'), y -> y.take(2), y -> y.change(0, 'y'),
            y -> y.part(1, 0), y -> y.grow(5), y -> y.undo(), y -> Due.text(y, "x\nx{\n  x"), y -> Due.text(y, ""),
            y -> Due.grammar(y, "A:'xA/'{/"), y -> Due.grammar(y, "A:B/'{A;B:A'x/'x"), y -> Sentences.truth(y.again(0)),
            y -> Sentences.truth(y.again(1)), y -> Sentences.truth(y.keep(1)), y -> y.repair(0), y -> y.alike(0)};
        Sentences.Making[] makings = {Sentences::rich, Sentences::broken};
        for (Sentences.Making making : makings) {
            for (int k = 0; k < changes.length; k++) {
                ColumnGrammar asked = making.anew();
                ColumnGrammar other = making.anew();
                askOfEach(asked);
                S.due("change " + k, changes[k].on(asked), changes[k].on(other));
                S.due("asked behind change " + k, Shown.asked(asked), Shown.asked(other));
            }
        }
        ColumnGrammar x = Sentences.rich();
        S.due("fits", x.fits(), 1);
        x.move(2, -1);
        S.due("fits no more", x.fits(), 0);
        S.due("blame", x.blame(0), 3);
        x.undo();
        S.due("fits again", x.fits(), 1);
        S.due("blame", x.blame(0), NONE);
    }

    /** What was asked ahead of a change must not be what the first call behind it goes by, whichever call that is. */
    private static void eachWorkedOutWhenAsked() {
        S.of(TERMS, "are worked out as things are when they are asked.");
        Sentences.Call[] asking = {x -> x.fits(), x -> x.where(0, 0, 3), x -> x.where(1, 0, 2), x -> x.blame(0), x -> x.blame(1),
            x -> x.goesOn(3), x -> x.goesOn(2), x -> x.hint(0), x -> x.hint(1), x -> x.next(2, 'x'), x -> x.next(3, 'x'),
            x -> x.next(1, '{'), x -> x.room(1), x -> x.room(2), x -> x.room(3), x -> x.nodes(), x -> x.node(1, 4), x -> x.ways(0),
            x -> x.extent(0, 3), x -> x.off(0), x -> x.about(0, 0), x -> x.tree(0), x -> x.tree(1), x -> x.repair(0), x -> x.repair(1),
            x -> x.alike(0), x -> x.first(0, NONE), x -> x.free(0)};
        String[] texts = {"x{\n x", "x{\nx", "x\nx{", "xxx", "x\n x", " x\n x\n x", ""};
        String[] grammars = {Sentences.BLOCKS, "B:=L/=L>B;L:='x/='x'{", "B:='x", "B:*L*L*L;L:'x/'{", "B:>L>B/;L:'x'{"};
        for (int call = 0; call < asking.length; call++) {
            for (int k = 0; k < texts.length * grammars.length; k++) {
                String text = texts[k % texts.length];
                String grammar = grammars[k / texts.length];
                ColumnGrammar x = Due.made("B:L/L>B;L:'x/'x'{", "x{\n  x\n   x");
                x.keep(0);
                askOfEach(x);
                Due.text(x, text);
                askOfEach(x);
                Due.grammar(x, grammar);
                ColumnGrammar same = Due.made("B:L/L>B;L:'x/'x'{", "x{\n  x\n   x");
                same.keep(0);
                Due.text(same, text);
                Due.grammar(same, grammar);
                same.fits();
                S.due("call " + call + " for " + grammar + " and " + text, asking[call].on(x), asking[call].on(same));
                askOfEach(x);
                x.put(0, 9, 'x');
                same.put(0, 9, 'x');
                same.fits();
                S.due("call " + call + " behind put()", asking[call].on(x), asking[call].on(same));
            }
        }
    }

    private static void smallerTreeBehindAGreaterOne() {
        S.of(TERMS, "THE TREE, BLAME and the like are worked out as things are");
        ColumnGrammar x = Due.made("S:*A;A:*B;B:*'x", "x");
        S.due("off(0)", x.off(0), 2);
        S.due("tree(0)", x.tree(0), 3);
        Due.grammar(x, "S:*'x");
        S.due("off(0)", x.off(0), 0);
        S.due("tree(0)", x.tree(0), 1);
        S.due("tree(1)", x.tree(1), 0);
        S.due("tree(2)", x.tree(2), 0);
        for (int what = 0; what < 4; what++) {
            S.due("about(0, " + what + ")", x.about(0, what), what < 3 ? 1 : 0);
        }
        S.due("node(1, 0)", x.node(1, 0), NONE);
    }

    private static void askOfEach(ColumnGrammar x) {
        x.fits();
        x.where(1, 0, 1);
        x.first(0, NONE);
        x.room(x.count(1));
        x.ways(0);
        for (int what = 0; what < 2; what++) {
            x.blame(what);
            x.hint(what);
            x.repair(what);
            x.alike(what);
            x.tree(what);
        }
    }

    private static void refusedCallsOfTexts() {
        S.of(TERMS, "REFUSED calls answer as told, and change nothing but THE TEXT, which grammar() and text() empty");
        ColumnGrammar x = Sentences.rich();
        S.due("THE TEXT is there", x.count(3), 5);
        S.due("grammar()", x.grammar(), -1000);
        S.due("count(3)", x.count(3), 0);
        x = Sentences.rich();
        x.move(0, 40);
        x.put(9, 0, 'x');
        x.take(9);
        x.change(0, 'x');
        x.part(0, 0);
        x.grow(-1);
        x.again(2);
        x.keep(2);
        x.end(6);
        S.due("all that is shown", Shown.all(x), Shown.all(Sentences.rich()));
    }

    private static void refusedNumbersAheadOfTheRest() {
        S.of(TERMS, "-1 a number that can't be; -2 no such TOKEN, LINE; -3 it can't be by what stands.");
        ColumnGrammar x = Sentences.full();
        S.due("move: -1 ahead of -2", x.move(9, 40), -1);
        S.due("move: -2", x.move(9, 39), -2);
        S.due("move: -3", x.move(3, 39), -3);
        S.due("change: -1 ahead of -2", x.change(20, 127), -1);
        S.due("change: -2", x.change(20, 'x'), -2);
        S.due("change: -3", x.change(19, 'x'), -3);
        S.due("part: -1 ahead of -2", x.part(20, 40), -1);
        S.due("part: -2", x.part(20, 39), -2);
        S.due("part: -3", x.part(0, 39), -3);
        S.due("put: -1 ahead of -3", x.put(0, 0, 127), -1);
        S.due("put: -3", x.put(0, 0, 'x'), -3);
        S.due("take: -2", x.take(20), -2);
        S.due("grow: -1 ahead of -3", new ColumnGrammar().grow(-1), -1);
        S.due("grow: -3", new ColumnGrammar().grow(0), -3);
    }
}
