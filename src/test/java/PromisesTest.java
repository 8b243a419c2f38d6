import java.util.NoSuchElementException;

/** Each promise of the document with answers worked out by hand: what is ordinary, the edges, and what is wrong. */
public final class PromisesTest {
    private static final long ALL = (1L << 40) - 1;
    private static final int NONE = ColumnGrammar.NONE;
    private static final String BLOCKS = "B:=L/=L=B;L:='x/='x'{>B";
    private static final Due D = new Due();

    public static void main(String[] args) {
        newObject();
        theText();
        grammarFaults();
        grammarNamesAndRounds();
        grammarKeepsTheRest();
        textFaults();
        rules();
        firsts();
        written();
        free();
        tokensAndWhere();
        bonds();
        fitsAndBlame();
        goesOnAndNext();
        hints();
        nodes();
        treeChoices();
        ways();
        extents();
        offAndAbout();
        treeNumbers();
        moves();
        puts();
        takesAndChanges();
        parts();
        grows();
        undos();
        repairs();
        prints();
        keeps();
        counts();
        D.finish();
    }

    private static void newObject() {
        D.of("1 a new object");
        ColumnGrammar x = new ColumnGrammar();
        for (int what = 0; what < 6; what++) {
            D.due("count(" + what + ")", x.count(what), 0);
        }
        D.due("fits()", x.fits(), NONE);
        D.due("write()", x.write(), NONE);
        D.due("print()", x.print(), 0);
        D.due("letter(0)", x.letter(0), NONE);
        D.due("undo()", x.undo(), -3);
        D.due("again(0)", x.again(0), false);
        D.due("NONE", ColumnGrammar.NONE, -1);
    }

    private static void theText() {
        D.of("2, 3 sign and end");
        ColumnGrammar x = new ColumnGrammar();
        D.due("sign", x.sign('A' << 24 | ':' << 16 | '\'' << 8 | 'x'), 4);
        D.due("grammar", x.grammar(), 1);
        D.due("the highest byte first", x.item(0, 0, 0, 0), 'x');
        for (int k = 1; k <= 60; k++) {
            D.due("sign", x.sign(-1), 4 * k);
        }
        D.due("sign beyond 240", x.sign(0), NONE);
        D.due("count(3)", x.count(3), 240);
        D.due("end(237)", x.end(237), true);
        D.due("a sign that would not fit whole", x.sign(0), NONE);
        D.due("count(3)", x.count(3), 237);
        D.due("end(238)", x.end(238), false);
        D.due("end(-1)", x.end(-1), false);
        D.due("end(least)", x.end(Integer.MIN_VALUE), false);
        D.due("end(237)", x.end(237), true);
        D.due("end(236)", x.end(236), true);
        D.due("sign", x.sign(0), 240);
        D.due("end(0)", x.end(0), true);
        D.due("count(3)", x.count(3), 0);
        D.due("end(1)", x.end(1), false);
    }

    private static void fault(String grammar, int place) {
        ColumnGrammar x = new ColumnGrammar();
        D.due("grammar of " + grammar, Due.grammar(x, grammar), place < 0 ? -place : -1000 - place);
    }

    private static void grammarFaults() {
        D.of("4 grammar, what is read");
        fault("", 0);
        fault("   ", 3);
        fault("A", 1);
        fault("A:", -1);
        fault(" A : ' x", 6);
        fault("A : 'x ", -1);
        fault("A:'", 3);
        fault("A:'x=", 5);
        fault("A:== 'x", 3);
        fault("A:= > 'x", 4);
        fault("A:=/'x", 3);
        fault("A:=;B:", 3);
        fault("a:", 0);
        fault("A;", 1);
        fault("A:x", 2);
        fault("A::", 2);
        fault("A:'\n", 3);
        fault("A:\u00ff", 2);
        fault("A:'\u007f", 3);
        fault("A:'!'~", -1);
        fault("A:''", -1);
        fault("A:';'/':", -1);
        fault("A:'x;", 5);
        fault("A:'x; ", 6);
        fault("A:;;", 3);
        fault("A:///", -1);
        fault("A:////", 5);
        fault("A:'a'a'a'a'a", -1);
        fault("A:'a'a'a'a'a 'a", 13);
        fault("A:'a'a'a'a'a = 'a", 13);
        fault("A:'a'a'a'a'a'", 12);
        fault("A:'a'a'a'a'a?", 12);
        fault("A:'a'a'a'a'a/'b", -1);
        fault("A:;A:'x", 3);
        fault("A:;B:; A:'x", 7);
        fault("A:;A", 3);
        fault("A:;B:;C:;D:;E:;F:;G:;H:", -8);
        fault("A:;B:;C:;D:;E:;F:;G:;H:;", 24);
        fault("A:;B:;C:;D:;E:;F:;G:;H:; I:", 25);
        fault("A:;B:;C:;D:;E:;F:;G:;H:; ?", 25);
        fault("A:;B:;C:;D:;E:;F:;G:;H:////", 26);
    }

    private static void grammarNamesAndRounds() {
        D.of("4 grammar, names and rounds");
        fault("A:'x= B;C:D", 6);
        fault("A:B;B:C", 6);
        fault("A:B;B:;A:", 7);
        fault("A:B;B:;?", 7);
        fault("A:A;B:C", 6);
        fault("A:A", 0);
        fault("A:'x/A", 0);
        fault("A:'xA", -1);
        fault("A:AA", -1);
        fault("A:AA/", 0);
        fault("A:'x;B:A/BC;C:", 5);
        fault("A:'x;B:A/BC;C:'y", -3);
        fault("A:'x/ B; C:D ; D:C;B:'y", 9);
        fault("A:*B;B:>C;C:=A", 0);
        fault("A:B'x;B:A", -2);
        fault("A:BC;B:/'x;C:/AB", 0);
        fault("A:BC;B:'y/'x;C:/AB", -3);
        fault("A:'x;B:BC;D:;C:DD", 5);
    }

    private static void grammarKeepsTheRest() {
        D.of("4 grammar, what stays");
        ColumnGrammar x = Due.made("A:'x", "x y");
        x.take(1);
        Due.type(x, "B:?");
        D.due("grammar", x.grammar(), -1002);
        D.due("THE TEXT is empty", x.count(3), 0);
        D.due("rule(0, 0)", x.rule(0, 0), 'A');
        D.due("count(1)", x.count(1), 1);
        D.due("fits", x.fits(), 1);
        D.due("grammar anew", Due.grammar(x, "B:'y;C:"), 2);
        D.due("TOKENS stay", x.count(1), 1);
        D.due("what can be undone stays", x.count(5), 1);
        D.due("fits", x.fits(), 0);
        D.due("undo", x.undo(), 0);
        D.due("count(1)", x.count(1), 2);
    }

    private static void textFaults() {
        D.of("5 text");
        ColumnGrammar x = new ColumnGrammar();
        D.due("an empty one", x.text(), 0);
        D.due("text", Due.text(x, "\n\n  a~\n!\n"), 3);
        D.due("line", x.token(0, 1), 2);
        D.due("column", x.token(1, 2), 3);
        D.due("sign", x.token(1, 0), '~');
        D.due("line", x.token(2, 1), 3);
        D.due("column", x.token(2, 2), 0);
        D.due("take", x.take(0), 2);
        D.due("a byte 9", Due.text(x, "x\tx"), -1001);
        D.due("a byte 127", Due.text(x, "x\u007f"), -1001);
        D.due("a byte 255", Due.text(x, " \n\u00ff"), -1002);
        D.due("a byte 0", Due.text(x, "\0\t"), -1000);
        D.due("TOKENS stay", x.count(1), 2);
        D.due("what can be undone stays", x.count(5), 1);
        D.due("THE TEXT is empty", x.count(3), 0);
        D.due("20", Due.text(x, "x".repeat(10) + "\n" + "x".repeat(10)), 20);
        D.due("nothing can be undone", x.count(5), 0);
        D.due("21", Due.text(x, "x".repeat(10) + "\n" + "x".repeat(10) + " x"), -1022);
        D.due("column 39", Due.text(x, "\n" + " ".repeat(39) + "x" + " ".repeat(50)), 1);
        D.due("column 39", x.token(0, 2), 39);
        D.due("column 40", Due.text(x, "\n" + " ".repeat(40) + "x"), -1041);
        D.due("lines alone", Due.text(x, "\n".repeat(240)), 0);
        D.due("the last line", Due.text(x, "\n".repeat(239) + "x"), 1);
        D.due("the last line", x.token(0, 1), 239);
        D.due("the first fault", Due.text(x, " ".repeat(41) + "x\t"), -1041);
    }

    private static long ruleOf(ColumnGrammar x, int rule, int what) {
        try {
            return x.rule(rule, what);
        } catch (NoSuchElementException e) {
            return -777;
        }
    }

    private static void rules() {
        D.of("6, 7 rule and item");
        ColumnGrammar x = new ColumnGrammar();
        D.due("rule(0, 0) without", ruleOf(x, 0, 0), -777);
        D.due("item without", x.item(0, 0, -1, 0), NONE);
        Due.grammar(x, "Z:'A >B * C/='~;B:C//B'x;C:");
        D.due("rule(0, 0)", ruleOf(x, 0, 0), 'Z');
        D.due("rule(0, 1)", ruleOf(x, 0, 1), 2);
        D.due("rule(0, 2)", ruleOf(x, 0, 2), 0);
        D.due("rule(1, 1)", ruleOf(x, 1, 1), 3);
        D.due("rule(1, 2)", ruleOf(x, 1, 2), 1);
        D.due("rule(2, 1)", ruleOf(x, 2, 1), 1);
        D.due("rule(2, 2)", ruleOf(x, 2, 2), 1);
        D.due("rule(0, 3)", ruleOf(x, 0, 3), NONE);
        D.due("rule(0, -1)", ruleOf(x, 0, -1), NONE);
        D.due("rule(3, 0)", ruleOf(x, 3, 0), -777);
        D.due("rule(-1, 0)", ruleOf(x, -1, 0), -777);
        D.due("rule(least, 9)", ruleOf(x, Integer.MIN_VALUE, 9), -777);
        long[][] dues = {
            {0, 0, -1, 0, 3}, {0, 1, -1, 0, 1}, {1, 1, -1, 0, 0}, {0, 0, -1, 1, NONE}, {0, 0, 0, 0, 'A'}, {0, 0, 0, 1, 0},
            {0, 0, 0, 2, 0}, {0, 0, 1, 0, 'B'}, {0, 0, 1, 1, 1}, {0, 0, 1, 2, '>'}, {0, 0, 2, 2, '*'}, {0, 1, 0, 0, '~'},
            {0, 1, 0, 2, '='}, {0, 0, 3, 0, NONE}, {0, 0, -2, 0, NONE}, {0, 2, -1, 0, NONE}, {0, -1, -1, 0, NONE},
            {3, 0, -1, 0, NONE}, {-1, 0, -1, 0, NONE}, {0, 0, 0, 3, NONE}, {0, 0, 0, -1, NONE}, {1, 1, 0, 0, NONE},
        };
        for (long[] d : dues) {
            String call = "item(" + d[0] + ", " + d[1] + ", " + d[2] + ", " + d[3] + ")";
            D.due(call, x.item((int) d[0], (int) d[1], (int) d[2], (int) d[3]), d[4]);
        }
        D.due("EMPTY without regard to columns", Due.grammar(x, "A:>B;B:>A'x/>C;C:"), 3);
        D.due("rule(0, 2)", ruleOf(x, 0, 2), 1);
    }

    private static void firsts() {
        D.of("8 first");
        ColumnGrammar x = new ColumnGrammar();
        D.due("without", x.first(0, -1), NONE);
        Due.grammar(x, "A:B'z/'q'y;B:/'~B/'!");
        D.due("how many", x.first(0, -1), 4);
        D.due("0", x.first(0, 0), '!');
        D.due("1", x.first(0, 1), 'q');
        D.due("2", x.first(0, 2), 'z');
        D.due("3", x.first(0, 3), '~');
        D.due("4", x.first(0, 4), NONE);
        D.due("-2", x.first(0, -2), NONE);
        D.due("how many of B", x.first(1, -1), 2);
        D.due("no such", x.first(2, -1), NONE);
        D.due("no such", x.first(-1, -1), NONE);
        D.of("8 first, where columns leave no room");
        Due.grammar(x, "A:'x>A/'yA/'z");
        D.due("how many", x.first(0, -1), 3);
        Due.grammar(x, "A:'x>A");
        D.due("never ends", x.first(0, -1), 0);
        // Of 40 that each stand deeper there is no 41st.
        Due.grammar(x, "A:>B'x;B:>C'y/C;C:>D;D:");
        D.due("x alone or y", x.first(0, -1), 2);
        Due.grammar(x, "A:'aB/'b;B:>B");
        D.due("a ROUND", x.count(0), 4);
        Due.grammar(x, "A:'aB/'b;B:'cB");
        D.due("what is behind never ends", x.first(0, -1), 1);
        D.due("what is behind never ends", x.first(0, 0), 'b');
    }

    private static void written() {
        D.of("9 write");
        ColumnGrammar x = new ColumnGrammar();
        D.due("without", x.write(), NONE);
        Due.grammar(x, " A : 'B / > B * 'x ;B: /= '= 'y ");
        D.due("write()", x.write(), 19);
        D.due("without blanks", Due.line(x).equals("A:'B/>B*'x;B:/='='y"), true);
        Due.grammar(x, "Z:");
        D.due("THE LINE stays", x.count(4), 19);
        D.due("write()", x.write(), 2);
        D.due("an ALT without ITEMS", Due.line(x).equals("Z:"), true);
        Due.grammar(x, "Z://='z/");
        D.due("write()", x.write(), 8);
        D.due("ALTS as they stand", Due.line(x).equals("Z://='z/"), true);
    }

    private static void free() {
        D.of("10 free");
        ColumnGrammar x = new ColumnGrammar();
        D.due("without", x.free(0), 0);
        Due.grammar(x, "A:>B;B:>C;C:>'x;D:=A;E:*A;F:A;G:'x>G;H:'x>H/A");
        D.due("A", x.free(0), ALL >>> 3);
        D.due("B", x.free(1), ALL >>> 2);
        D.due("C", x.free(2), ALL >>> 1);
        D.due("D", x.free(3), ALL >>> 3);
        D.due("E", x.free(4), ALL);
        D.due("F", x.free(5), ALL >>> 3);
        D.due("G", x.free(6), 0);
        D.due("H", x.free(7), ALL >>> 3);
        D.due("8", x.free(8), 0);
        D.due("-1", x.free(-1), 0);
        Due.grammar(x, "A:BBBBB;B:CCCCC;C:'x");
        D.due("more than 20 TOKENS", x.free(0), ALL);
    }

    private static void tokensAndWhere() {
        D.of("11, 12 token and where");
        ColumnGrammar x = Due.made(BLOCKS, "x{\n  x\n  x\nx");
        D.due("token(4, 1)", x.token(4, 1), 3);
        D.due("token(1, 2)", x.token(1, 2), 1);
        D.due("token(0, 3)", x.token(0, 3), NONE);
        D.due("token(0, -1)", x.token(0, -1), NONE);
        D.due("token(5, 0)", x.token(5, 0), NONE);
        D.due("token(-1, 0)", x.token(-1, 0), NONE);
        D.due("B over all", x.where(0, 0, 5), 1);
        D.due("B over the inner", x.where(0, 2, 4), 0b100);
        D.due("L over x", x.where(1, 2, 3), 0b100);
        D.due("L over the first line and what is below", x.where(1, 0, 4), 1);
        D.due("B over nothing", x.where(0, 2, 2), 0);
        D.due("i above j", x.where(0, 3, 2), 0);
        D.due("j beyond", x.where(0, 0, 6), 0);
        D.due("i below", x.where(0, -1, 2), 0);
        D.due("no such RULE", x.where(2, 0, 5), 0);
        D.due("no such RULE", x.where(-1, 0, 5), 0);
        x = Due.made("A:>B/=C'z;B:>C;C:", "x");
        D.due("over nothing", x.where(0, 0, 0), ALL >>> 2);
        D.due("over nothing at the end", x.where(1, 1, 1), ALL >>> 1);
        D.due("without a GRAMMAR", new ColumnGrammar().where(0, 0, 0), 0);
    }

    private static void bonds() {
        D.of("12 where, bonds");
        String text = "   x";
        D.due("=", Due.made("A:='x", text).where(0, 0, 1), 8);
        D.due(">", Due.made("A:>'x", text).where(0, 0, 1), 7);
        D.due("none", Due.made("A:'x", text).where(0, 0, 1), 15);
        D.due("*", Due.made("A:*'x", text).where(0, 0, 1), ALL);
        D.due("= =", Due.made("A:=B='x;B:='x", "x\n  x").where(0, 0, 2), 0);
        D.due("= and >", Due.made("A:=B>'x;B:='x", "x\n  x").where(0, 0, 2), 1);
        D.due("= of what may stand at more", Due.made("A:=B='x;B:'x", "  x\nx").where(0, 0, 2), 1);
        D.due("* within", Due.made("A:='(*B=');B:'x", "  (\nx\n  )").where(0, 0, 3), 4);
        D.due("column 39", Due.made("A:'x", " ".repeat(39) + "x").where(0, 0, 1), ALL);
        D.due("> of column 0", Due.made("A:>'x", "x").where(0, 0, 1), 0);
    }

    private static void fitsAndBlame() {
        D.of("13, 14 fits and blame");
        ColumnGrammar x = new ColumnGrammar();
        D.due("fits without", x.fits(), NONE);
        D.due("blame without", x.blame(0), NONE);
        x = Due.made(BLOCKS, "\nx{\n\n  x\n x");
        D.due("fits", x.fits(), 0);
        D.due("blame(0)", x.blame(0), 3);
        D.due("blame(1)", x.blame(1), 4);
        D.due("blame(2)", x.blame(2), NONE);
        D.due("blame(-1)", x.blame(-1), NONE);
        x.move(4, -1);
        D.due("fits", x.fits(), 1);
        D.due("blame(0)", x.blame(0), NONE);
        Due.text(x, "\n\nx\n\nx{");
        D.due("the end", x.blame(0), 3);
        D.due("its LINE", x.blame(1), 4);
        Due.text(x, "\n\nx\n\nx\n\nx\n\n x");
        Due.text(x, "\nx{");
        D.due("the end", x.blame(0), 2);
        D.due("its LINE", x.blame(1), 1);
        Due.text(x, "");
        D.due("fits", x.fits(), 0);
        D.due("the end", x.blame(0), 0);
        D.due("its LINE", x.blame(1), 0);
        x = Due.made("A:'x>A", "\n\nx");
        D.due("what never ends", x.blame(0), 0);
        D.due("its LINE", x.blame(1), 2);
        D.due("nothing fits", Due.made("A:/'x", "").fits(), 1);
    }

    private static void goesOnAndNext() {
        D.of("15, 17, 18 goesOn, next, room");
        ColumnGrammar x = new ColumnGrammar();
        D.due("goesOn without", x.goesOn(0), NONE);
        D.due("next without", x.next(0, 'x'), 0);
        D.due("room without", x.room(0), NONE);
        x = Due.made(BLOCKS, "x{\n  x\n x");
        int[] goes = {1, 1, 1, 1, 0};
        for (int m = 0; m < 5; m++) {
            D.due("goesOn(" + m + ")", x.goesOn(m), goes[m]);
        }
        D.due("goesOn(5)", x.goesOn(5), NONE);
        D.due("goesOn(-1)", x.goesOn(-1), NONE);
        D.due("next(0, x)", x.next(0, 'x'), ALL);
        D.due("next(0, {)", x.next(0, '{'), 0);
        // B stands at 0, so a further L as well, or one deeper behind the {.
        D.due("next(1, x)", x.next(1, 'x'), 1);
        D.due("next(1, {)", x.next(1, '{'), ALL);
        D.due("next(2, x)", x.next(2, 'x'), ALL & ~1);
        D.due("next(3, x)", x.next(3, 'x'), 0b101);
        D.due("next(3, {)", x.next(3, '{'), ALL & ~3);
        D.due("next(4, x)", x.next(4, 'x'), 0);
        D.due("next(5, x)", x.next(5, 'x'), 0);
        D.due("next(-1, x)", x.next(-1, 'x'), 0);
        D.due("next(0, 32)", x.next(0, 32), 0);
        D.due("next(0, 127)", x.next(0, 127), 0);
        D.due("room(0)", x.room(0), 40);
        D.due("room(1)", x.room(1), 40);
        D.due("room(2)", x.room(2), 39);
        D.due("room(3)", x.room(3), 39);
        D.due("room(4)", x.room(4), 0);
        D.due("room(5)", x.room(5), NONE);
        D.due("room(-1)", x.room(-1), NONE);
        D.of("15, 17 what is behind must have room");
        x = Due.made("A:='x>B;B:='y>C;C:='z", "");
        D.due("next(0, x)", x.next(0, 'x'), ALL >>> 2);
        Due.text(x, "x");
        D.due("next(1, y)", x.next(1, 'y'), ALL >>> 1 & ~1);
        D.due("next(1, z)", x.next(1, 'z'), 0);
        D.due("a beginning by itself", Due.made("E:E'+'a/'a", "a + a +").goesOn(4), 1);
        D.due("more than 20", Due.made("A:'xA/", "xxxxx\nxxxxx\nxxxxx\nxxxxx").room(20), 40);
        D.due("nothing that ends", Due.made("A:'xA", "").goesOn(0), 0);
        D.due("by RULES in any order", Due.made("A:C;B:'x;C:B", "").next(0, 'x'), ALL);
        x = Due.made("A:'xA/", "x x x x");
        x.take(3);
        D.due("next(3, x)", x.next(3, 'x'), ALL);
        D.due("beyond the TOKENS", x.next(4, 'x'), 0);
        D.due("far beyond", x.next(Integer.MAX_VALUE, 'x'), 0);
        D.due("a sign 0", x.next(0, 0), 0);
        D.due("room beyond", x.room(4), NONE);
        D.due("goesOn beyond", x.goesOn(Integer.MAX_VALUE), NONE);
    }

    private static void hints() {
        D.of("16 hint");
        D.due("without", new ColumnGrammar().hint(0), NONE);
        ColumnGrammar x = Due.made(BLOCKS, "x{\n   x\n  x");
        D.due("blame", x.blame(0), 3);
        D.due("hint(0)", x.hint(0), 3);
        D.due("hint(1)", x.hint(1), 2);
        D.due("hint(2)", x.hint(2), NONE);
        D.due("hint(-1)", x.hint(-1), NONE);
        Due.text(x, "x{\n  x\n x");
        D.due("the lower of like ones", x.hint(0), 0);
        Due.text(x, "x{\n  {");
        D.due("no such COLUMN", x.hint(0), NONE);
        D.due("how many", x.hint(1), 0);
        Due.text(x, "x{");
        D.due("the end", x.hint(0), NONE);
        D.due("the end", x.hint(1), NONE);
        Due.text(x, "x");
        D.due("it fits", x.hint(0), NONE);
        D.due("it fits", x.hint(1), NONE);
    }

    private static void node(ColumnGrammar x, int k, int... dues) {
        for (int what = 0; what < dues.length; what++) {
            D.due("node(" + k + ", " + what + ")", x.node(k, what), dues[what]);
        }
    }

    private static void nodes() {
        D.of("19, 20 nodes and node");
        D.due("without", new ColumnGrammar().nodes(), NONE);
        D.due("without", new ColumnGrammar().node(0, 0), NONE);
        ColumnGrammar x = Due.made(BLOCKS, "x{\n  x\n  x\nx");
        D.due("nodes()", x.nodes(), 8);
        node(x, 0, 0, 1, 0, 5, 0, NONE, 0);
        node(x, 1, 1, 1, 0, 4, 0, 0, 1);
        node(x, 2, 0, 1, 2, 4, 2, 1, 2);
        node(x, 3, 1, 0, 2, 3, 2, 2, 3);
        node(x, 4, 0, 0, 3, 4, 2, 2, 3);
        node(x, 5, 1, 0, 3, 4, 2, 4, 4);
        node(x, 6, 0, 0, 4, 5, 0, 0, 1);
        node(x, 7, 1, 0, 4, 5, 0, 6, 2);
        D.due("node(8, 0)", x.node(8, 0), NONE);
        D.due("node(-1, 0)", x.node(-1, 0), NONE);
        D.due("node(0, 7)", x.node(0, 7), NONE);
        D.due("node(0, -1)", x.node(0, -1), NONE);
        x.change(0, 'y');
        D.due("it does not fit", x.nodes(), NONE);
        D.due("it does not fit", x.node(0, 0), NONE);
        x = Due.made("A:B'x;B:C;C:", "");
        D.due("it does not fit", x.nodes(), NONE);
        Due.text(x, "x");
        D.due("those over no TOKENS are left out", x.nodes(), 1);
        x = Due.made("A:B;B:", "");
        D.due("without TOKENS", x.nodes(), 0);
        D.due("without TOKENS", x.node(0, 0), NONE);
    }

    private static void treeChoices() {
        D.of("20 which NODES");
        ColumnGrammar x = Due.made("S:AA;A:/'x/'x'x", "x x");
        D.due("the first end is least", x.nodes(), 2);
        node(x, 1, 1, 2, 0, 2);
        x = Due.made("S:AAA;A:'x/'x'x;B:", "x x x x");
        node(x, 1, 1, 0, 0, 1);
        node(x, 2, 1, 0, 1, 2);
        node(x, 3, 1, 1, 2, 4);
        x = Due.made("S:A/B/A;A:>'x;B:'x", "x");
        D.due("the first ALT that does", x.node(0, 1), 1);
        x = Due.made("S:='a>A*A;A:'x", "  a x\n x");
        D.due("least COLUMN", x.node(0, 4), 2);
        D.due("least COLUMN deeper", x.node(1, 4), 3);
        D.due("least COLUMN of any", x.node(2, 4), 0);
        x = Due.made("S:*A;A:='x", " x");
        D.due("THE START at the least COLUMN of all", x.node(0, 4), 0);
        D.due("what is below at its own", x.node(1, 4), 1);
        x = Due.made("A:'x", "     x");
        D.due("ahead of its TOKEN", x.node(0, 4), 0);
    }

    private static void ways() {
        D.of("21 ways");
        D.due("without", new ColumnGrammar().ways(0), NONE);
        ColumnGrammar x = Due.made("S:AA/AA;A:/'x/'x'x", "x x");
        // Of two TOKENS 0 and 2, 1 and 1, 2 and 0: by each of the ALTS.
        D.due("ways(0)", x.ways(0), 6);
        D.due("ways(1)", x.ways(1), 1);
        D.due("ways(2)", x.ways(2), NONE);
        D.due("ways(-1)", x.ways(-1), NONE);
        x = Due.made("S:=AB;A:'x/'x'x;B:'x/'x'x", "x x\n  x");
        D.due("at its COLUMN", x.ways(0), 2);
        x = Due.made("S:AAAAA/AAAAA/AAAAA/AAAAA;A:/'x/'xB;B:'x/'xB", "xxxxx\nxxxxx\nxxxxx\nxxxxx");
        D.due("4 times 24 over 4", x.ways(0), 42504);
        x = Due.made("S:=A>B;A:'x/'x'x;B:'x/'x'x", "x\nx\n x");
        D.due("columns leave one", x.ways(0), 1);
        x = Due.made("S:*A;A:'x", "   x");
        D.due("columns of what is below aside", x.ways(0), 1);
    }

    private static void extents() {
        D.of("22 extent");
        ColumnGrammar x = Due.made("S:='(*E=');E:'aE/'a", "\n  (\n\na   a\n a )");
        D.due("fits", x.fits(), 0);
        Due.text(x, "\n  (\n\na   a\n a\n  )");
        int[][] dues = {{1, 5, 0, 4, 2}, {3, 4, 0, 4, 0}, {3, 4, 1, 4, 0}, {4, 4, 1, 1, 0}};
        for (int k = 0; k < dues.length; k++) {
            for (int what = 0; what < 5; what++) {
                D.due("extent(" + k + ", " + what + ")", x.extent(k, what), dues[k][what]);
            }
        }
        D.due("extent(0, 5)", x.extent(0, 5), NONE);
        D.due("extent(0, -1)", x.extent(0, -1), NONE);
        D.due("extent(4, 0)", x.extent(4, 0), NONE);
        D.due("extent(-1, 0)", x.extent(-1, 0), NONE);
        x.take(0);
        D.due("it does not fit", x.extent(0, 0), NONE);
        D.due("without", new ColumnGrammar().extent(0, 0), NONE);
    }

    private static void offAndAbout() {
        D.of("23, 24 off and about");
        ColumnGrammar x = Due.made("S:'(*E');E:'a/'(*E')/=S", "  (\n(\n a\n  )\n)");
        D.due("off(0)", x.off(0), 0);
        D.due("off(1)", x.off(1), 1);
        D.due("off(2)", x.off(2), 2);
        D.due("off(4)", x.off(4), 0);
        D.due("off(5)", x.off(5), NONE);
        D.due("off(-1)", x.off(-1), NONE);
        int[][] dues = {{1, 0, 1, 0}, {1, 0, 2, 1}, {1, 1, 3, 1}, {0, 1, 2, 1}, {0, 1, 1, 0}};
        for (int token = 0; token < 5; token++) {
            for (int what = 0; what < 4; what++) {
                D.due("about(" + token + ", " + what + ")", x.about(token, what), dues[token][what]);
            }
        }
        D.due("about(0, 4)", x.about(0, 4), NONE);
        D.due("about(0, -1)", x.about(0, -1), NONE);
        D.due("about(5, 0)", x.about(5, 0), NONE);
        D.due("about(-1, 0)", x.about(-1, 0), NONE);
        x.take(4);
        D.due("it does not fit", x.off(0), NONE);
        D.due("it does not fit", x.about(0, 0), NONE);
        Due.text(x = new ColumnGrammar(), "x");
        D.due("no GRAMMAR", x.off(0), NONE);
        D.due("no GRAMMAR", x.about(0, 0), NONE);
        x = Due.made("S:*'(*'a", "(a");
        D.due("a SIGN is no NODE", x.off(1), 0);
    }

    private static void treeNumbers() {
        D.of("25 tree");
        ColumnGrammar x = Due.made(BLOCKS, "x{\n  x\n  x\nx");
        D.due("tree(0)", x.tree(0), 5);
        D.due("tree(1)", x.tree(1), 0);
        D.due("tree(2)", x.tree(2), 4);
        D.due("tree(3)", x.tree(3), NONE);
        D.due("tree(-1)", x.tree(-1), NONE);
        x = Due.made("S:A'x/A;A:'x", "  x x\n x");
        D.due("it does not fit", x.tree(0), NONE);
        Due.text(x, "  x x");
        D.due("tree(0)", x.tree(0), 2);
        D.due("tree(1)", x.tree(1), 2);
        D.due("tree(2)", x.tree(2), 1);
        x = Due.made("S:'x=A;A:'y", "x\ny");
        D.due("a LINE that begins one", x.tree(2), 0);
        x = Due.made("S:", "");
        D.due("without TOKENS", x.tree(0), 0);
        D.due("without TOKENS", x.tree(2), 0);
        D.due("no GRAMMAR", new ColumnGrammar().tree(0), NONE);
    }

    private static void moves() {
        D.of("26 move");
        ColumnGrammar x = new ColumnGrammar();
        D.due("no TOKENS", x.move(0, 1), -2);
        Due.text(x, "a b\n\n  c");
        D.due("move(0, 3)", x.move(0, 3), 2);
        D.due("token(0, 2)", x.token(0, 2), 3);
        D.due("token(1, 2)", x.token(1, 2), 5);
        D.due("token(2, 2)", x.token(2, 2), 2);
        D.due("move(1, 0)", x.move(1, 0), -2);
        D.due("move(3, 0)", x.move(3, 0), -2);
        D.due("move(-1, 0)", x.move(-1, 0), -2);
        D.due("move(0, 40)", x.move(0, 40), -1);
        D.due("move(0, -40)", x.move(0, -40), -1);
        D.due("move(9, 40)", x.move(9, 40), -1);
        D.due("move(0, least)", x.move(0, Integer.MIN_VALUE), -1);
        D.due("move(2, -3)", x.move(2, -3), -3);
        D.due("move(0, 35)", x.move(0, 35), -3);
        D.due("all stays", x.token(0, 2), 3);
        D.due("count(5)", x.count(5), 1);
        D.due("move(0, 0)", x.move(0, 0), 2);
        D.due("it is an ACT", x.count(5), 2);
        D.due("move(0, 34)", x.move(0, 34), 2);
        D.due("token(1, 2)", x.token(1, 2), 39);
        D.due("move(2, -2)", x.move(2, -2), 1);
        D.due("move(2, 39)", x.move(2, 39), 1);
        D.due("move(2, -39)", x.move(2, -39), 1);
        Due.text(x, "xxxxx\nxxxxx\nxxxxx\nxxxxx");
        D.due("of 20: move(3, 35)", x.move(3, 35), 5);
        D.due("of 20: part(19, 0)", x.part(19, 0), 4);
    }

    private static void puts() {
        D.of("27 put");
        ColumnGrammar x = new ColumnGrammar();
        D.due("put(1, 0, a)", x.put(1, 0, 'a'), -1);
        D.due("put(0, 5, a)", x.put(0, 5, 'a'), 0);
        D.due("put(0, 5, b)", x.put(0, 5, 'b'), -3);
        D.due("put(0, 4, b)", x.put(0, 4, 'b'), 0);
        D.due("put(0, 39, c)", x.put(0, 39, 'c'), 2);
        D.due("put(2, 0, c)", x.put(2, 0, 'c'), -1);
        D.due("put(1, 0, d)", x.put(1, 0, '!'), 3);
        D.due("put(0, 10, ~)", x.put(0, 10, '~'), 2);
        D.due("token(2, 0)", x.token(2, 0), '~');
        D.due("token(3, 0)", x.token(3, 0), 'c');
        D.due("token(4, 1)", x.token(4, 1), 1);
        int[][] wrong = {{-1, 0, 'a'}, {0, -1, 'a'}, {0, 40, 'a'}, {0, 0, 32}, {0, 0, 127}, {3, 0, 'a'}, {0, 5, 32}};
        for (int[] w : wrong) {
            D.due("put(" + w[0] + ", " + w[1] + ", " + w[2] + ")", x.put(w[0], w[1], w[2]), -1);
        }
        D.due("count(5)", x.count(5), 5);
        Due.text(x, "\n\n\nx");
        D.due("a LINE without TOKENS", x.put(1, 3, 'y'), 0);
        D.due("the last and 1 more", x.put(4, 3, 'y'), 2);
        Due.text(x, "xxxxx\nxxxxx\nxxxxx\nxxxxx");
        D.due("there are 20", x.put(0, 9, 'x'), -3);
        D.due("there are 20, a wrong number", x.put(0, 40, 'x'), -1);
        x.take(19);
        D.due("where one was taken", x.put(3, 4, 'x'), 19);
    }

    private static void takesAndChanges() {
        D.of("28, 29 take and change");
        ColumnGrammar x = new ColumnGrammar();
        D.due("take(0)", x.take(0), -2);
        Due.text(x, "a b\nc");
        D.due("take(3)", x.take(3), -2);
        D.due("take(-1)", x.take(-1), -2);
        D.due("take(1)", x.take(1), 2);
        D.due("token(1, 0)", x.token(1, 0), 'c');
        D.due("take(0)", x.take(0), 1);
        D.due("LINES stay", x.token(0, 1), 1);
        D.due("take(0)", x.take(0), 0);
        D.due("count(1)", x.count(1), 0);
        Due.text(x, "a b\nc");
        D.due("change(1, ~)", x.change(1, '~'), 'b');
        D.due("token(1, 0)", x.token(1, 0), '~');
        D.due("change(1, ~)", x.change(1, '~'), -3);
        D.due("change(3, ~)", x.change(3, '~'), -2);
        D.due("change(-1, ~)", x.change(-1, '~'), -2);
        D.due("change(1, 32)", x.change(1, 32), -1);
        D.due("change(9, 127)", x.change(9, 127), -1);
        D.due("count(5)", x.count(5), 1);
    }

    private static void parts() {
        D.of("30 part");
        ColumnGrammar x = new ColumnGrammar();
        D.due("no TOKENS", x.part(0, 0), -2);
        Due.text(x, "a b  c\n\nd");
        D.due("part(1, 40)", x.part(1, 40), -1);
        D.due("part(9, -1)", x.part(9, -1), -1);
        D.due("part(4, 0)", x.part(4, 0), -2);
        D.due("part(-1, 0)", x.part(-1, 0), -2);
        D.due("part(0, 0)", x.part(0, 0), -3);
        D.due("part(3, 0)", x.part(3, 0), -3);
        D.due("part(1, 37)", x.part(1, 37), -3);
        D.due("count(5)", x.count(5), 0);
        D.due("part(1, 36)", x.part(1, 36), 1);
        int[][] dues = {{'a', 0, 0}, {'b', 1, 36}, {'c', 1, 39}, {'d', 3, 0}};
        for (int k = 0; k < 4; k++) {
            for (int what = 0; what < 3; what++) {
                D.due("token(" + k + ", " + what + ")", x.token(k, what), dues[k][what]);
            }
        }
        D.due("part(2, 0)", x.part(2, 0), 2);
        D.due("token(3, 1)", x.token(3, 1), 4);
        Due.text(x, "a b  c");
        D.due("in the last LINE: part(1, 37)", x.part(1, 37), -3);
        D.due("in the last LINE: part(1, 36)", x.part(1, 36), 1);
        D.due("token(2, 2)", x.token(2, 2), 39);
        D.due("token(2, 1)", x.token(2, 1), 1);
    }

    private static void grows() {
        D.of("31 grow");
        ColumnGrammar x = new ColumnGrammar();
        D.due("no GRAMMAR", x.grow(0), -3);
        D.due("a seed that can't be", x.grow(1_000_000), -1);
        D.due("a seed that can't be", x.grow(-1), -1);
        Due.grammar(x, "A:='x");
        // s becomes 12,345, of 40 columns the 25th; one ALT, one column are drawn, too.
        D.due("grow(0)", x.grow(0), 1);
        D.due("token(0, 2)", x.token(0, 2), 12345 % 40);
        D.due("an ACT", x.count(5), 1);
        Due.grammar(x, "A:='x'y");
        long s = step(999_999);
        int column = (int) (s % 40);
        s = step(step(step(s)));
        int above = (int) (s % (40 - column));
        D.due("grow(999999)", x.grow(999_999), 2);
        D.due("token(0, 2)", x.token(0, 2), column);
        D.due("token(1, 2)", x.token(1, 2), column + above);
        D.due("in the next LINE, if it is not deeper", x.token(1, 1), above == 0 ? 1 : 0);
        Due.grammar(x, "A:='x='y");
        x.grow(7);
        D.due("the same COLUMN, so the next LINE", x.token(1, 1), 1);
        Due.grammar(x, "A:'x>A");
        D.due("no FREE COLUMN", x.grow(0), -3);
        D.due("all stays", x.count(1), 2);
        Due.grammar(x, "A:BBBB;B:CCCCC;C:'x");
        D.due("20 TOKENS", x.grow(5), 20);
        Due.grammar(x, "A:BBBB'y;B:CCCCC;C:'x");
        D.due("a 21st TOKEN", x.grow(5), -3);
        D.due("all stays", x.count(1), 20);
        Due.grammar(x, "A:B;B:");
        D.due("no TOKENS", x.grow(5), 0);
        D.due("no TOKENS", x.count(1), 0);
        growsDeep(x);
        for (int seed = 0; seed < 20; seed++) {
            D.due("what is grown fits", fitsGrown(BLOCKS, seed), 1);
            D.due("what is grown fits", fitsGrown("S:=A>A=A;A:*'x/'y/'xA", seed), 1);
        }
    }

    /** A NODE of C with the n-th x has 3 n above it: 30 with the tenth. */
    private static void growsDeep(ColumnGrammar x) {
        Due.grammar(x, "S:A;A:B;B:C;C:'xA/'xA/'xA/'x");
        int tens = 0;
        for (int seed = 0; seed < 3000; seed++) {
            // The COLUMN of S; ALT and ITEM of S.
            long s = step(step(step(seed)));
            int signs = 0;
            boolean more = true;
            while (more) {
                // ALT and ITEM of A and of B; the ALT of C.
                s = step(step(step(step(step(s)))));
                more = s % 4 < 3;
                s = step(more ? step(s) : s);
                signs++;
            }
            tens += signs == 10 ? 1 : 0;
            D.due("grow(" + seed + ") by " + signs, x.grow(seed), signs > 10 ? -3 : signs);
        }
        D.due("some have just 30 above", tens > 0, true);
    }

    private static long step(long s) {
        return (1103 * s + 12345) % 1_000_003;
    }

    private static int fitsGrown(String grammar, int seed) {
        ColumnGrammar x = Due.made(grammar, "");
        return x.grow(seed) < 0 ? 1 : x.fits();
    }

    private static void undos() {
        D.of("32 undo");
        ColumnGrammar x = Due.made("A:'x", "x");
        D.due("undo()", x.undo(), -3);
        for (int k = 1; k <= 13; k++) {
            x.move(0, 1);
            D.due("count(5)", x.count(5), Math.min(k, 10));
        }
        for (int k = 9; k >= 0; k--) {
            D.due("undo()", x.undo(), k);
            D.due("token(0, 2)", x.token(0, 2), 3 + k);
        }
        D.due("undo()", x.undo(), -3);
        Due.text(x, "a b\n  c");
        x.part(1, 7);
        x.put(2, 0, 'e');
        x.take(0);
        x.change(0, 'z');
        x.grow(3);
        String[] lines = {"       z\ne c", "       b\ne c", "a\n       b\ne c", "a\n       b\n  c", "a b\n  c"};
        for (int k = 0; k < 5; k++) {
            D.due("undo()", x.undo(), 4 - k);
            x.print();
            D.due("as it was: " + lines[k], Due.line(x).equals(lines[k]), true);
        }
        D.due("LINE of the last", x.token(2, 1), 1);
    }

    private static void repairs() {
        D.of("33 repair");
        D.due("without", new ColumnGrammar().repair(0), NONE);
        ColumnGrammar x = Due.made(BLOCKS, "x{\n  x\n x\n\n  x");
        D.due("repair(0)", x.repair(0), 2);
        D.due("repair(1)", x.repair(1), 101);
        D.due("repair(2)", x.repair(2), NONE);
        D.due("repair(-1)", x.repair(-1), NONE);
        D.due("nothing is moved", x.token(3, 2), 1);
        x.move(2, 1);
        D.due("it fits", x.repair(0), NONE);
        x = Due.made("S:='x='y", "   x\n y");
        D.due("the first LINE", x.repair(0), 0);
        D.due("by -2", x.repair(1), 98);
        x = Due.made("S:='x='y", "x\n      y");
        D.due("by 6", x.repair(1), 106);
        x.move(1, 1);
        D.due("7 is too far", x.repair(1), NONE);
        D.due("7 is too far", x.repair(0), NONE);
        x = Due.made("S:='x>'y='z/='z='z", "  x\n y\n  z");
        D.due("one LINE alone", x.repair(0), 1);
        D.due("by 2", x.repair(1), 102);
        // The a may go to the y, the y to the a or to the c: all of them by 1.
        x = Due.made("S:A/B;A:='a='y*'c;B:*'a='y='c", "a\n y\n  c");
        D.due("the first LINE ahead of one below 0", x.repair(0), 0);
        D.due("by 1", x.repair(1), 101);
        x = Due.made("S:A/B;A:='y='a*'c;B:='y*'a='c", "\n\n  y\na\n    c");
        D.due("the first LINE", x.repair(0), 2);
        D.due("of -2 and 2 the one below 0", x.repair(1), 98);
        x = Due.made("S:='a>M;M:='b='y/='y", "a\n   b\n  y");
        D.due("the least size, the first LINE", x.repair(0), 1);
        D.due("the one below 0", x.repair(1), 99);
        x = Due.made("S:='a*P='c;P:='x/='y", "  a\nx\n c");
        D.due("the LINE of the a", x.repair(0), 0);
        D.due("by -1", x.repair(1), 99);
        x = Due.made("S:A/B;A:=P>'z;B:=P='z;P:='x>'y", " x\n y\n z");
        D.due("-1 and 1 of LINE 0 and 1: LINE 0, below 0", x.repair(0) * 1000 + x.repair(1), 99);
        x = Due.made("A:'x", "y");
        D.due("none", x.repair(0), NONE);
    }

    private static void prints() {
        D.of("34, 35 print and letter");
        ColumnGrammar x = new ColumnGrammar();
        Due.text(x, "\n\n a  b   \n\nc\n\n");
        D.due("print()", x.print(), 7);
        D.due("as it is", Due.line(x).equals(" a  b\nc"), true);
        D.due("letter(-1)", x.letter(-1), NONE);
        D.due("letter(7)", x.letter(7), NONE);
        D.due("letter(5)", x.letter(5), 10);
        x.take(0);
        D.due("THE LINE stays", Due.line(x).equals(" a  b\nc"), true);
        D.due("write() without a GRAMMAR", x.write(), NONE);
        D.due("THE LINE stays", x.count(4), 7);
        D.of("34 the longest");
        StringBuilder b = new StringBuilder();
        Due.text(x, "");
        for (int line = 0; line < 20; line++) {
            x.put(line, 39, 'x');
            b.append(line > 0 ? "\n" : "").append(" ".repeat(39)).append('x');
        }
        D.due("print()", x.print(), 819);
        D.due("as it is", Due.line(x).equals(b.toString()), true);
    }

    private static void keeps() {
        D.of("36, 37, 38 keep, again, alike");
        ColumnGrammar x = new ColumnGrammar();
        D.due("again(0)", x.again(0), false);
        D.due("alike(0)", x.alike(0), NONE);
        D.due("keep(2)", x.keep(2), false);
        D.due("keep(-1)", x.keep(-1), false);
        D.due("keep(1)", x.keep(1), true);
        D.due("alike(1): no GRAMMAR", x.alike(1), NONE);
        Due.grammar(x, BLOCKS);
        Due.text(x, "x{\n  x\nx");
        D.due("alike(1): none kept", x.alike(1), NONE);
        D.due("keep(0)", x.keep(0), true);
        D.due("alike(0)", x.alike(0), 1);
        x.move(1, 5);
        D.due("columns aside", x.alike(0), 1);
        x.move(1, -7);
        D.due("it does not fit", x.alike(0), NONE);
        x.undo();
        x.take(3);
        D.due("fewer TOKENS", x.alike(0), 0);
        Due.text(x, "x{\n  x\n  x");
        D.due("another tree", x.alike(0), 0);
        Due.text(x, "y{\n  y\ny");
        Due.grammar(x, "B:=L/=L=B;L:'y/'y'{>B");
        D.due("another GRAMMAR, the same NAMES", x.alike(0), 1);
        Due.grammar(x, "B:=K/=K=B;K:'y/'y'{>B");
        D.due("another NAME", x.alike(0), 0);
        Due.grammar(x, "L:'q;B:=L/=L=B");
        D.due("again(0)", x.again(0), true);
        D.due("rule(0, 0)", x.rule(0, 0), 'B');
        D.due("count(1)", x.count(1), 4);
        D.due("nothing can be undone", x.undo(), -3);
        D.due("fits", x.fits(), 1);
        x.take(0);
        D.due("fits", x.fits(), 0);
        D.due("what is kept stays", x.again(0) && x.count(1) == 4, true);
        D.due("nothing can be undone", x.count(5), 0);
        D.due("fits again", x.fits(), 1);
        D.due("again(2)", x.again(2), false);
        D.due("alike(2)", x.alike(2), NONE);
        D.due("alike(-1)", x.alike(-1), NONE);
        x.take(0);
        x.keep(0);
        x.undo();
        D.due("what is kept does not fit", x.alike(0), NONE);
        D.due("again(1)", x.again(1), true);
        D.due("no GRAMMAR is brought back", x.fits(), NONE);
        Due.grammar(x, "A:");
        D.due("nodes()", x.nodes(), 0);
        x.again(1);
        D.due("no tree", x.nodes(), NONE);
        D.due("no RULE", ruleOf(x, 0, 0), -777);
        D.due("no TOKENS", x.count(1), 0);
    }

    private static void counts() {
        D.of("39 count");
        ColumnGrammar x = Due.made(BLOCKS, "\n   x\n\n x   x");
        x.move(1, 0);
        x.print();
        x.sign(0);
        int[] dues = {2, 3, 2, 4, 11, 1, 5, 1, NONE};
        for (int what = 0; what < dues.length; what++) {
            D.due("count(" + what + ")", x.count(what), dues[what]);
        }
        D.due("count(-1)", x.count(-1), NONE);
        D.due("count(6)", new ColumnGrammar().count(6), NONE);
        D.due("count(7)", new ColumnGrammar().count(7), NONE);
    }
}
