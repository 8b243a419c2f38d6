/** The boundary cases that promises 11 to 18 name, a test for each sentence. */
public final class FitBoundariesTest {
    private static final int NONE = Sentences.NONE;
    private static final long ALL = Sentences.ALL;
    private static final int LEAST = Sentences.LEAST;
    private static final int MOST = Sentences.MOST;
    private static final String XS = "A:'xA/'x";
    private static final Sentences S = new Sentences();

    public static void main(String[] args) {
        p11Token();
        p11Others();
        p12Where();
        p12NoSuch();
        p13Fits();
        p13NoGrammar();
        p14Blame();
        p14LineOfTheEnd();
        p14Others();
        p15GoesOn();
        p15Others();
        p16Nearest();
        p16HowMany();
        p16None();
        p17Next();
        p17TokensBehindLeftAside();
        p17NoSuch();
        p18Room();
        p18Others();
        S.finish(11, 18);
    }

    private static void p11Token() {
        S.of(11, "Of a TOKEN its sign (what 0), LINE (1), COLUMN (2).");
        ColumnGrammar x = new ColumnGrammar();
        Due.text(x, "!\n\n" + Sentences.blanks(39) + "~");
        int[][] dues = {{33, 0, 0}, {126, 2, 39}};
        for (int k = 0; k < 2; k++) {
            for (int what = 0; what < 3; what++) {
                S.due("token(" + k + ", " + what + ")", x.token(k, what), dues[k][what]);
            }
        }
        Due.text(x, Sentences.FULL);
        S.due("the 20th: its LINE", x.token(19, 1), 3);
        S.due("the 20th: its COLUMN", x.token(19, 2), 4);
        Due.text(x, "\n".repeat(239) + "x");
        S.due("the greatest LINE of a text", x.token(0, 1), 239);
    }

    private static void p11Others() {
        S.of(11, "NONE: others.");
        int[][] wrong = {{-1, 0}, {5, 0}, {20, 1}, {LEAST, 0}, {MOST, 0}, {0, -1}, {0, 3}, {0, LEAST}, {0, MOST}, {4, 3}};
        for (int[] w : wrong) {
            S.refused("token(" + w[0] + ", " + w[1] + ")", Sentences::rich, x -> x.token(w[0], w[1]), NONE);
        }
        S.refused("token(20, 0) of 20", Sentences::full, x -> x.token(20, 0), NONE);
        S.due("no TOKENS", Sentences.withoutTokens().token(0, 0), NONE);
        ColumnGrammar x = Sentences.full();
        x.take(0);
        S.due("the last is one lower then", x.token(18, 2), 39);
        S.due("none where one was", x.token(19, 0), NONE);
    }

    private static void p12Where() {
        S.of(12, "WHERE, as bits.");
        ColumnGrammar x = Due.made("A:'x/;B:*'x;C:='x;D:>'x", Sentences.blanks(39) + "x");
        S.due("where(0, 0, 1)", x.where(0, 0, 1), ALL);
        S.due("where(1, 0, 1)", x.where(1, 0, 1), ALL);
        S.due("where(2, 0, 1)", x.where(2, 0, 1), 1L << 39);
        S.due("where(3, 0, 1)", x.where(3, 0, 1), ALL >>> 1);
        S.due("where(0, 0, 0)", x.where(0, 0, 0), ALL);
        S.due("where(0, 1, 1)", x.where(0, 1, 1), ALL);
        x = Due.made("A:'xA/'x;B:", Sentences.FULL);
        S.due("where(0, 0, 20)", x.where(0, 0, 20), 1);
        S.due("where(0, 0, 19)", x.where(0, 0, 19), 1);
        S.due("where(0, 19, 20)", x.where(0, 19, 20), 31);
        S.due("where(0, 20, 20)", x.where(0, 20, 20), 0);
        S.due("where(1, 20, 20)", x.where(1, 20, 20), ALL);
        S.due("no TOKENS", Sentences.withoutTokens().where(0, 0, 0), ALL);
        x = Due.made("A:='x;B:=A;C:=B;D:=C;E:=D;F:=E;G:=F;H:=G", "  x");
        S.due("by all the RULES ahead", x.where(7, 0, 1), 4);
        x = Due.made("A:'x;B:A;C:B;D:C;E:D;F:E;G:F;H:H'y/G", "xyy");
        S.due("by all the RULES ahead and itself", x.where(7, 0, 2), 1);
        S.due("by all the RULES ahead and itself twice", x.where(7, 0, 3), 1);
        x = Due.made("A:=B;B:=C;C:=D;D:=E;E:=F;F:=G;G:=H;H:='x", "  x");
        S.due("by all the RULES behind", x.where(0, 0, 1), 4);
        S.due("of four ALTS, not that of the next RULE", Due.made("A:'a/'b/'c/'d;B:'x", "x").where(0, 0, 1), 0);
    }

    private static void p12NoSuch() {
        S.of(12, "0: no such RULE, i and j (0 up to how many TOKENS there are, i not above j).");
        int[][] wrong = {{-1, 0, 5}, {2, 0, 5}, {8, 0, 5}, {LEAST, 0, 5}, {MOST, 0, 5}, {0, -1, 5}, {0, 0, 6}, {0, 1, 0}, {0, 5, 4},
            {0, LEAST, 5}, {0, 0, MOST}, {0, MOST, LEAST}, {0, LEAST, MOST}, {0, 0, -1}, {0, -1, -1}, {0, 0, 21}};
        for (int[] w : wrong) {
            S.refused("where(" + w[0] + ", " + w[1] + ", " + w[2] + ")", Sentences::rich, x -> x.where(w[0], w[1], w[2]), 0);
        }
        ColumnGrammar x = Due.made("A:", Sentences.FULL);
        S.due("where(0, 20, 20)", x.where(0, 20, 20), ALL);
        S.due("where(0, 21, 21)", x.where(0, 21, 21), 0);
        S.due("where(0, 20, 21)", x.where(0, 20, 21), 0);
        x = Due.made("A:", "xx");
        x.take(1);
        S.due("where(0, 1, 1)", x.where(0, 1, 1), ALL);
        S.due("where(0, 2, 2)", x.where(0, 2, 2), 0);
        S.due("no GRAMMAR", Sentences.withoutGrammar().where(0, 0, 0), 0);
    }

    private static void p13Fits() {
        S.of(13, "Whether it FITS: 1, 0.");
        S.due("rich", Sentences.rich().fits(), 1);
        S.due("broken", Sentences.broken().fits(), 0);
        S.due("20 TOKENS", Sentences.full().fits(), 1);
        S.due("no TOKENS", Sentences.withoutTokens().fits(), 1);
        S.due("no TOKENS, not EMPTY", Due.made("A:'x", "").fits(), 0);
        S.due("TOKENS, but EMPTY alone", Due.made("A:", "x").fits(), 0);
        S.due("no FREE COLUMN", Due.made("A:'xA", "x").fits(), 0);
    }

    private static void p13NoGrammar() {
        S.of(13, "NONE: no GRAMMAR.");
        S.refused("fits()", Sentences::withoutGrammar, x -> x.fits(), NONE);
        S.due("a new object", new ColumnGrammar().fits(), NONE);
    }

    private static void p14Blame() {
        S.of(14, "BLAME: the TOKEN (what 0), its LINE (1;");
        ColumnGrammar x = Sentences.broken();
        S.due("blame(0)", x.blame(0), 3);
        S.due("blame(1)", x.blame(1), 2);
        x = Due.made("A:'y", "\n\nx");
        S.due("the first TOKEN", x.blame(0), 0);
        S.due("its LINE", x.blame(1), 2);
        x = Due.made(XS, Sentences.FULL);
        x.change(19, 'y');
        S.due("the 20th TOKEN", x.blame(0), 19);
        S.due("its LINE", x.blame(1), 3);
    }

    private static void p14LineOfTheEnd() {
        S.of(14, "of the end: that of the last TOKEN, 0 without TOKENS)");
        ColumnGrammar x = Due.made("A:'x'y'z", "\nx\n\n\ny");
        S.due("the end", x.blame(0), 2);
        S.due("its LINE", x.blame(1), 4);
        x = Due.made("A:'xA/'y", Sentences.FULL);
        S.due("the end of 20", x.blame(0), 20);
        S.due("its LINE", x.blame(1), 3);
        x = Due.made("A:'x", "\n\n\n");
        S.due("the end without TOKENS", x.blame(0), 0);
        S.due("its LINE", x.blame(1), 0);
        x = Due.made("A:'x'y", "\n\nx");
        x.take(0);
        S.due("the end, the TOKEN taken", x.blame(0), 0);
        S.due("its LINE", x.blame(1), 0);
    }

    private static void p14Others() {
        S.of(14, "NONE: it FITS, no GRAMMAR, others.");
        for (int what : new int[] {0, 1, -1, 2}) {
            S.refused("it FITS: blame(" + what + ")", Sentences::rich, x -> x.blame(what), NONE);
            S.refused("no GRAMMAR: blame(" + what + ")", Sentences::withoutGrammar, x -> x.blame(what), NONE);
        }
        for (int what : new int[] {-1, 2, LEAST, MOST}) {
            S.refused("blame(" + what + ")", Sentences::broken, x -> x.blame(what), NONE);
        }
    }

    private static void p15GoesOn() {
        S.of(15, "Whether the BEGINNING of m TOKENS GOES ON: 1, 0.");
        ColumnGrammar x = Sentences.broken();
        int[] dues = {1, 1, 1, 1, 0, 0};
        for (int m = 0; m < dues.length; m++) {
            S.due("goesOn(" + m + ")", x.goesOn(m), dues[m]);
        }
        S.due("20 of 20", Sentences.full().goesOn(20), 1);
        S.due("none of none", Sentences.withoutTokens().goesOn(0), 1);
        S.due("none, no FREE COLUMN", Due.made("A:'xA", "x").goesOn(0), 0);
        S.due("one, no FREE COLUMN", Due.made("A:'xA", "x").goesOn(1), 0);
        S.due("more than 20", Due.made("A:'xA/'y", Sentences.FULL).goesOn(20), 1);
    }

    private static void p15Others() {
        S.of(15, "NONE: no GRAMMAR, no such m.");
        for (int m : new int[] {-1, 6, 21, LEAST, MOST}) {
            S.refused("goesOn(" + m + ")", Sentences::rich, x -> x.goesOn(m), NONE);
        }
        S.refused("goesOn(21) of 20", Sentences::full, x -> x.goesOn(21), NONE);
        S.refused("goesOn(1) of none", Sentences::withoutTokens, x -> x.goesOn(1), NONE);
        S.refused("no GRAMMAR: goesOn(0)", Sentences::withoutGrammar, x -> x.goesOn(0), NONE);
        S.refused("no GRAMMAR: goesOn(3)", Sentences::withoutGrammar, x -> x.goesOn(3), NONE);
    }

    /** Two x at two COLUMNS of LINES 0 and 1 open a block each; the third stands at a COLUMN that is neither. */
    private static ColumnGrammar between(int inner, int third) {
        return Due.made(Sentences.BLOCKS, "x{\n" + Sentences.blanks(inner) + "x\n" + Sentences.blanks(third) + "x");
    }

    private static void p16Nearest() {
        S.of(16, "of BLAME's TOKEN the COLUMN nearest to its own (of like ones the lower)");
        S.due("0 and 2, its own 1", between(2, 1).hint(0), 0);
        S.due("0 and 38, its own 19", between(38, 19).hint(0), 0);
        S.due("0 and 38, its own 20", between(38, 20).hint(0), 38);
        S.due("0 and 38, its own 18", between(38, 18).hint(0), 0);
        S.due("0 and 38, its own 39", between(38, 39).hint(0), 38);
        S.due("0 alone, its own 39", Due.made("S:='a='b", Sentences.lines("ab", 0, 39)).hint(0), 0);
        S.due("39 alone, its own 0", Due.made("S:='a='b", Sentences.lines("ab", 39, 0)).hint(0), 39);
        S.due("of the first TOKEN", Due.made("S:='a>'b", Sentences.blanks(39) + "a").hint(0), 38);
    }

    private static void p16HowMany() {
        S.of(16, "how many such COLUMNS (1).");
        S.due("two", between(2, 1).hint(1), 2);
        S.due("one", Due.made("S:='a='b", Sentences.lines("ab", 0, 39)).hint(1), 1);
        S.due("39", Due.made("S:='a>'b", Sentences.lines("ab", 0, 0)).hint(1), 39);
        S.due("of the first TOKEN 39", Due.made("S:='a>'b", Sentences.blanks(39) + "a").hint(1), 39);
        S.due("none", Due.made("S:='a>'b", Sentences.lines("ac", 0, 1)).hint(1), 0);
    }

    private static void p16None() {
        S.of(16, "NONE: it FITS, BLAME is the end, no such COLUMN (0), no GRAMMAR, others.");
        for (int what = 0; what < 2; what++) {
            int w = what;
            S.refused("it FITS: hint(" + w + ")", Sentences::rich, x -> x.hint(w), NONE);
            S.refused("the end: hint(" + w + ")", () -> Due.made("A:'x'y", "x"), x -> x.hint(w), NONE);
            S.refused("the end of none: hint(" + w + ")", () -> Due.made("A:'x'y", ""), x -> x.hint(w), NONE);
            S.refused("the end of 20: hint(" + w + ")", () -> Due.made("A:'xA/'y", Sentences.FULL), x -> x.hint(w), NONE);
            S.refused("no GRAMMAR: hint(" + w + ")", Sentences::withoutGrammar, x -> x.hint(w), NONE);
        }
        S.refused("no such COLUMN: hint(0)", () -> Due.made("A:'x", "y"), x -> x.hint(0), NONE);
        S.refused("no such COLUMN: hint(1)", () -> Due.made("A:'x", "y"), x -> x.hint(1), 0);
        for (int what : new int[] {-1, 2, LEAST, MOST}) {
            S.refused("hint(" + what + ")", Sentences::broken, x -> x.hint(what), NONE);
        }
    }

    private static void p17Next() {
        S.of(17, "COLUMNS, as bits, at which a sign (33 .. 126) as TOKEN behind the first m ones would GO ON with these");
        ColumnGrammar x = Due.made("A:='!>'~", Sentences.lines("!", 5));
        S.due("next(0, 33)", x.next(0, 33), ALL >>> 1);
        S.due("next(1, 126)", x.next(1, 126), ALL & -64L);
        S.due("next(0, 126)", x.next(0, 126), 0);
        S.due("next(1, 33)", x.next(1, 33), 0);
        x.move(0, 33);
        S.due("behind COLUMN 38", x.next(1, 126), 1L << 39);
        x.move(0, 1);
        S.due("behind COLUMN 39", x.next(1, 126), 0);
        S.due("behind 20", Due.made(XS, Sentences.FULL).next(20, 'x'), ALL);
        S.due("behind none", Sentences.withoutTokens().next(0, 'x'), ALL);
        S.due("behind what does not go on", Due.made("A:'x'y", "qx").next(1, 'y'), 0);
        S.due("a NAME at COLUMN 0 alone", Due.made("A:='x=B;B:='y", "x").next(1, 'y'), 1);
        S.due("a NAME of a NAME at COLUMN 0 alone", Due.made("A:='x=C;B:='y;C:=B", "x").next(1, 'y'), 1);
        S.due("a NAME at COLUMN 39 alone", Due.made("A:='x=B;B:='y", Sentences.blanks(39) + "x").next(1, 'y'), 1L << 39);
        S.due("of four ALTS, not that of the next RULE", Due.made("A:'a/'b/'c/'d;B:'x", "").next(0, 'x'), 0);
    }

    private static void p17TokensBehindLeftAside() {
        S.of(17, "(the TOKENS behind left aside; in a new LINE)");
        ColumnGrammar x = Due.made("A:='x='y", "x q");
        S.due("in a new LINE the same COLUMN", x.next(1, 'y'), 1);
        S.due("behind both", x.next(2, 'y'), 0);
        S.due("behind none", x.next(0, 'x'), ALL);
        x = Due.made(XS, Sentences.FULL);
        S.due("behind the first of 20", x.next(1, 'x'), ALL);
    }

    private static void p17NoSuch() {
        S.of(17, "0: no GRAMMAR, no such m, sign.");
        int[][] wrong = {{-1, 'x'}, {6, 'x'}, {21, 'x'}, {LEAST, 'x'}, {MOST, 'x'}, {0, 32}, {0, 127}, {0, 0}, {0, -1}, {0, LEAST},
            {0, MOST}, {0, 'x' + 256}};
        for (int[] w : wrong) {
            S.refused("next(" + w[0] + ", " + w[1] + ")", Sentences::rich, x -> x.next(w[0], w[1]), 0);
        }
        S.refused("next(21, x) of 20", Sentences::full, x -> x.next(21, 'x'), 0);
        S.refused("next(1, x) of none", Sentences::withoutTokens, x -> x.next(1, 'x'), 0);
        S.refused("no GRAMMAR: next(0, x)", Sentences::withoutGrammar, x -> x.next(0, 'x'), 0);
    }

    private static void p18Room() {
        S.of(18, "How many COLUMNS there are at which any sign would so GO ON behind the first m TOKENS.");
        ColumnGrammar x = Due.made("A:='x>'y/='x>'z", Sentences.lines("xyx", 0, 1, 0));
        int[] dues = {39, 39, 0, 0};
        for (int m = 0; m < dues.length; m++) {
            S.due("room(" + m + ")", x.room(m), dues[m]);
        }
        S.due("one", Due.made("A:='x='y", "x").room(1), 1);
        S.due("all", Due.made("A:='x*'y", "x").room(1), 40);
        S.due("each COLUMN once", Due.made("A:'x/'y/'z", "").room(0), 40);
        S.due("of two signs", Due.made("A:='x*B;B:='y/>'z", "x").room(1), 40);
        S.due("deeper than 38", Due.made("A:='x>'y", Sentences.blanks(38) + "x").room(1), 1);
        S.due("deeper than 39", Due.made("A:='x>'y", Sentences.blanks(39) + "x").room(1), 0);
        S.due("behind 20", Due.made(XS, Sentences.FULL).room(20), 40);
        S.due("none can come", Due.made("A:", "").room(0), 0);
        S.due("a NAME at COLUMN 0 alone", Due.made("A:='x=B;B:='y", "x").room(1), 1);
        S.due("no FREE COLUMN", Due.made("A:'xA", "").room(0), 0);
    }

    private static void p18Others() {
        S.of(18, "NONE: no GRAMMAR, no such m.");
        for (int m : new int[] {-1, 6, 21, LEAST, MOST}) {
            S.refused("room(" + m + ")", Sentences::rich, x -> x.room(m), NONE);
        }
        S.refused("room(21) of 20", Sentences::full, x -> x.room(21), NONE);
        S.refused("room(1) of none", Sentences::withoutTokens, x -> x.room(1), NONE);
        S.refused("no GRAMMAR: room(0)", Sentences::withoutGrammar, x -> x.room(0), NONE);
    }
}
