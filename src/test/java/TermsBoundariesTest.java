/** The boundary cases that the document's Terms name, a test for each sentence: what is read (I). */
public final class TermsBoundariesTest {
    private static final int TERMS = Sentences.TERMS;
    private static final int NONE = Sentences.NONE;
    private static final long ALL = Sentences.ALL;
    private static final Sentences S = new Sentences();

    public static void main(String[] args) {
        the512thCall();
        columns();
        theText240Signs();
        ruleBehindRule();
        altWithoutItems();
        bonds();
        names();
        signs();
        blanks();
        eightRulesTheFirstIsTheStart();
        fiveItemsFourAlts();
        faultSignThatCantStand();
        faultNameTwice();
        faultNinthRule();
        faultFifthAlt();
        faultSixthItem();
        faultTooEarly();
        faultNameWithoutRule();
        faultRound();
        faultRoundBesideEmptyItems();
        emptyNames();
        tokenSigns();
        twentyTokens();
        linesAndColumnsOfTokens();
        faultOfText();
        readingEmptiesTheText();
        faultsInTheirOrder();
        ruleWithNothing();
        emptyText();
        blanksBeyondColumn39();
        whatReadingLeaves();
        S.finish(TERMS, TERMS);
    }

    private static void the512thCall() {
        S.of(TERMS, "An object is used for at most 512 calls after it has been made");
        ColumnGrammar x = new ColumnGrammar();
        x.sign('A' << 24 | ':' << 16 | '\'' << 8 | 'x');
        x.grammar();
        x.sign('x' << 24 | 0x202020);
        x.text();
        for (int call = 5; call <= 510; call++) {
            S.due("call " + call, x.move(0, call % 2 == 1 ? 39 : -39), 1);
        }
        S.due("the 511th call", x.undo(), 9);
        S.due("the 512th call", x.token(0, 2), 39);
    }

    private static void columns() {
        S.of(TERMS, "COLUMNS 0 .. 39.");
        ColumnGrammar x = Due.made("A:*'x", "x");
        S.due("where", x.where(0, 0, 1), 0xFFFFFFFFFFL);
        S.due("free", x.free(0), 0xFFFFFFFFFFL);
        S.due("next", x.next(0, 'x'), 0xFFFFFFFFFFL);
        S.due("room", x.room(0), 40);
        S.due("an empty NODE", Due.made("A:", "").where(0, 0, 0), 0xFFFFFFFFFFL);
        S.due("COLUMN 39", Due.text(x, Sentences.blanks(39) + "x"), 1);
        S.due("COLUMN 40", Due.text(x, Sentences.blanks(40) + "x"), -1040);
        S.due("nothing is deeper than 39", Due.made("A:='x>'y", "").next(0, 'x'), ALL >>> 1);
    }

    private static void theText240Signs() {
        S.of(TERMS, "THE TEXT (240 signs at most)");
        S.fault("A:" + Sentences.blanks(237) + "B", 239);
        S.reads("A:" + Sentences.blanks(236) + "'~", 1);
        S.due("text()", Due.text(new ColumnGrammar(), "\n".repeat(239) + "\t"), -1239);
        ColumnGrammar x = Due.made("A:", "\n".repeat(239) + "~");
        S.tokens(x, "~239,0");
    }

    private static void ruleBehindRule() {
        S.of(TERMS, "RULE {; RULE}.");
        S.reads("A:", 1);
        S.reads("A:;B:", 2);
        S.fault(";A:", 0);
        S.fault("A:;", 3);
        S.fault("A:;;B:", 3);
        S.fault("A:B:", 3);
    }

    private static void altWithoutItems() {
        S.of(TERMS, "ALT: none, or ITEMS: {ITEM}.");
        ColumnGrammar x = Due.made("A:/'x/;B:'y/", "");
        int[][] items = {{0, 0, 0}, {0, 1, 1}, {0, 2, 0}, {1, 0, 1}, {1, 1, 0}};
        for (int[] i : items) {
            S.due("ITEMS of RULE " + i[0] + " ALT " + i[1], x.item(i[0], i[1], NONE, 0), i[2]);
        }
        S.due("ALTS", x.rule(0, 1), 3);
        S.due("ALTS", x.rule(1, 1), 2);
    }

    private static void bonds() {
        S.of(TERMS, "ITEM: [BOND] PART. BOND: = > *.");
        for (char bond : new char[] {'=', '>', '*'}) {
            ColumnGrammar x = Due.made("A:" + bond + "'x", "");
            S.due("the BOND " + bond, x.item(0, 0, 0, 2), bond);
        }
        S.due("without one", Due.made("A:'x", "").item(0, 0, 0, 2), 0);
        for (char none : new char[] {'<', '?', ')', '+', '-'}) {
            S.fault("A:" + none + "'x", 2);
        }
        S.fault("A:=='x", 3);
        S.fault("A:=>'x", 3);
        S.fault("A:*", 3);
        S.fault("A:>/'x", 3);
        S.fault("A:=;B:", 3);
        S.due("a BOND as a SIGN", Due.made("A:*'*", "").item(0, 0, 0, 0), '*');
    }

    private static void names() {
        S.of(TERMS, "NAME: A .. Z;");
        S.reads("A:'x", 1);
        S.reads("Z:'x", 1);
        S.reads("Z:A;A:", 2);
        S.reads("A:Z;Z:", 2);
        for (char none : new char[] {'@', '[', 'a', 'z', '0'}) {
            S.fault(none + ":", 0);
            S.fault("A:" + none, 2);
        }
    }

    private static void signs() {
        S.of(TERMS, "SIGN: any byte 33 .. 126.");
        for (int sign = 0; sign < 256; sign++) {
            ColumnGrammar x = new ColumnGrammar();
            boolean is = sign >= 33 && sign <= 126;
            S.due("grammar() with the SIGN " + sign, Due.grammar(x, "A:'" + (char) sign), is ? 1 : -1003);
            S.due("item", x.item(0, 0, 0, 0), is ? sign : NONE);
        }
    }

    private static void blanks() {
        S.of(TERMS, "(Blanks, 32, may stand ahead of anything but the SIGN behind '.)");
        ColumnGrammar x = Due.made("  A  :  =  'x  *  B  C  /  >  'y  /  ;  B  :  ;  C  :  ", "");
        x.write();
        S.due("THE LINE", Due.line(x), "A:='x*BC/>'y/;B:;C:");
        S.fault("A:' x", 3);
        S.fault("A:'x=' y", 6);
        S.fault("A:\t'x", 2);
        S.fault("A\n:'x", 1);
    }

    private static void eightRulesTheFirstIsTheStart() {
        S.of(TERMS, "RULES 0, 1, .. (8 at most), one of each NAME; the first is THE START.");
        ColumnGrammar x = Due.made("S:'s;A:'a;Z:'z;B:'b;Y:'y;C:'c;X:'x;D:'d", "s");
        for (int rule = 0; rule < 8; rule++) {
            S.due("RULE " + rule, x.rule(rule, 0), "SAZBYCXD".charAt(rule));
            S.due("its SIGN", x.item(rule, 0, 0, 0), "sazbycxd".charAt(rule));
        }
        S.due("THE START", x.fits(), 1);
        x.change(0, 'a');
        S.due("not THE START", x.fits(), 0);
        x.change(0, 'd');
        S.due("not THE START", x.fits(), 0);
        S.due("grammar() of nine", Due.grammar(x, "A:;B:;C:;D:;E:;F:;G:;H:;I:"), -1024);
    }

    private static void fiveItemsFourAlts() {
        S.of(TERMS, "An ALT has 5 ITEMS at most, a RULE 4 ALTS.");
        String most = "A:'a'b'c'd'e/'f'g'h'i'j/'k'l'm'n'o/'p'q'r's't";
        ColumnGrammar x = Due.made(most + ";B:'u'v'w'x'y/'1'2'3'4'5/'6'7'8'9'0/'!'#'$'%'&", "");
        S.due("ALTS", x.rule(0, 1), 4);
        for (int sign = 0; sign < 20; sign++) {
            S.due("ITEMS", x.item(0, sign / 5, NONE, 0), 5);
            S.due("SIGN " + sign, x.item(0, sign / 5, sign % 5, 0), 'a' + sign);
            S.due("SIGN " + sign + " of B", x.item(1, sign / 5, sign % 5, 0), "uvwxy1234567890!#$%&".charAt(sign));
        }
        S.fault(most + "'u", most.length());
        S.fault(most + "/", most.length());
    }

    private static void faultSignThatCantStand() {
        S.of(TERMS, "FAULT: the first place that is so: a sign that can't stand there;");
        for (int sign = 0; sign < 256; sign++) {
            // Behind a ' the first ? is a SIGN, the second can't stand there.
            char s = (char) sign;
            boolean name = s >= 'A' && s <= 'Z';
            boolean blank = s == ' ';
            S.fault(s + "??", name || blank ? 1 : 0);
            S.fault("A" + s + "??", s == ':' || blank ? 2 : 1);
            S.fault("A:" + s + "??", name || blank || ";/'=>*".indexOf(s) >= 0 ? s == '\'' ? 4 : 3 : 2);
            S.fault("A:=" + s + "??", name || blank || s == '\'' ? s == '\'' ? 5 : 4 : 3);
            S.fault("A:'x" + s + "??", name || blank || ";/'=>*".indexOf(s) >= 0 ? s == '\'' ? 6 : 5 : 4);
            S.fault("A:B" + s + "??", name || blank || ";/'=>*".indexOf(s) >= 0 ? s == '\'' ? 5 : 4 : 3);
            S.fault("A:;" + s + "??", name && s != 'A' || blank ? 4 : 3);
        }
    }

    private static void faultNameTwice() {
        S.of(TERMS, "a NAME ahead of a : that has a RULE already;");
        S.fault("A:;A:", 3);
        S.fault("A:'x;  A  :'y", 7);
        S.fault("A:;B:;C:;B:", 9);
        S.fault("A:;B:;C:;D:;E:;F:;G:;G:", 21);
        S.reads("A:'x/'xA/'yA'yA;B:A/'zB", 2);
    }

    private static void faultNinthRule() {
        S.of(TERMS, "the first sign of a ninth RULE,");
        String eight = "A:;B:;C:;D:;E:;F:;G:;H:";
        S.reads(eight, 8);
        S.reads(eight + "'x", 8);
        S.fault(eight + ";I:", 24);
        S.fault(eight + ";   I:", 27);
        S.fault(eight + ";I", 24);
        S.fault(eight + ";?", 24);
        S.fault(eight + ";", 24);
        S.fault(eight + "; ", 25);
    }

    private static void faultFifthAlt() {
        S.of(TERMS, "what would begin a fifth ALT (the /)");
        S.reads("A:'a/'b/'c/'d", 1);
        S.fault("A:'a/'b/'c/'d/", 13);
        S.fault("A:'a/'b/'c/'d  /  'e", 15);
        S.reads("A:///", 1);
        S.fault("A:////", 5);
        S.fault("A:///;B:////", 11);
        S.reads("A:///;B:///", 2);
        S.fault("A:;B:;C:;D:;E:;F:;G:;H:////", 26);
        S.reads("A:;B:;C:;D:;E:;F:;G:;H:///", 8);
    }

    private static void faultSixthItem() {
        S.of(TERMS, "or a sixth ITEM (its BOND, if it has one);");
        S.reads("A:'a'b'c'd'e", 1);
        S.reads("A:='a>'b*'c='d>'e", 1);
        S.fault("A:'a'b'c'd'e'f", 12);
        S.fault("A:'a'b'c'd'eA", 12);
        S.fault("A:'a'b'c'd'e  >  'f", 14);
        S.fault("A:'a'b'c'd'e=A", 12);
        S.fault("A:'a'b'c'd'e*", 12);
        S.fault("A:'a/;B:'a'b'c'd'e/'a'b'c'd'e'f", 29);
        S.reads("A:'a'b'c'd'e/'a'b'c'd'e;B:'a'b'c'd'e", 2);
        S.fault("A:;B:;C:;D:;E:;F:;G:;H:///'a'b'c'd'e'f", 36);
        S.reads("A:;B:;C:;D:;E:;F:;G:;H:///'a'b'c'd'e", 8);
    }

    private static void faultTooEarly() {
        S.of(TERMS, "the length, if it ends too early.");
        String grammar = "A:= 'x> B/ ;B : *'y ";
        // The lengths at which it may end: behind the first :, the x, the blank behind it, and so on.
        int[] whole = {2, 6, 9, 10, 11, 15, 16, 19, 20};
        for (int length = 0; length <= grammar.length(); length++) {
            boolean may = false;
            for (int w : whole) {
                may = may || w == length;
            }
            String begun = grammar.substring(0, length);
            int due = !may ? -1000 - length : length < 9 ? 1 : length < 15 ? -1008 : 2;
            S.due("grammar() of " + begun, Due.grammar(new ColumnGrammar(), begun), due);
        }
        S.fault("A" + Sentences.blanks(239), 240);
    }

    private static void faultNameWithoutRule() {
        S.of(TERMS, "If there is none: of a NAME within an ALT that has no RULE the place, the first one;");
        S.fault("A:B", 2);
        S.fault("A:= B", 4);
        S.fault("A:'x/'y>A'z*Q;C:D", 12);
        S.fault("A:'x;B:A/'x/'y/'zD", 17);
        S.reads("A:'xB;B:'yC;C:'z", 3);
        S.fault("A:B;?", 4);
        S.fault("A:B;C:////", 9);
        S.fault("A:;B:;C:;D:;E:;F:;G:;H:'a'b'c'dI", 31);
    }

    private static void faultRound() {
        S.of(TERMS, "the first place of a NAME by which a ROUND is closed: ahead of a : , if that NAME comes to itself");
        S.fault("A:A", 0);
        S.fault("   A:'x/=A", 3);
        S.fault("A:'x;B:'y/>B", 5);
        S.fault("A:B;B:B", 4);
        S.fault("A:'x/C;B:B;C:C", 7);
        S.fault("A:B;B:C;C:D;D:E;E:F;F:G;G:H;H:A", 0);
        S.fault("A:'x;B:C;C:D;D:E;E:F;F:G;G:H;H:B", 5);
        S.fault("A:H;H:G;G:F;F:E;E:D;D:C;C:B;B:A", 0);
        S.reads("A:B;B:C;C:D;D:E;E:F;F:G;G:H;H:'x", 8);
        S.reads("A:H'x;H:G;G:F;F:E;E:D;D:C;C:B;B:A", 8);
        S.fault("A:H;B:A;C:B;D:C;E:D;F:E;G:F;H:G", 0);
        S.fault("A:'x;B:H;C:B;D:C;E:D;F:E;G:F;H:G", 5);
        S.reads("A:'x;B:A;C:B;D:C;E:D;F:E;G:F;H:G", 8);
        // The first ALT of the next RULE is not a fifth one.
        S.reads("A:'a/'b/'c/'d;B:A", 2);
    }

    private static void faultRoundBesideEmptyItems() {
        S.of(TERMS, "by ITEMS beside which all others of their ALTS can be EMPTY.");
        S.fault("A:BBABB;B:", 0);
        S.reads("A:BBAB'x;B:", 2);
        S.fault("A:'y/BA;B:'x/", 0);
        S.reads("A:'y/BA;B:'x", 2);
        S.fault("A:'y/AB;B:'x/", 0);
        S.fault("A:AA/", 0);
        S.reads("A:AA/'x", 1);
        S.fault("A:'x/CB;B:A/'y;C:D;D:", 0);
        S.reads("A:'x/CB;B:A/'y;C:D;D:'z", 4);
        S.fault("A:/'x/'y/A", 0);
    }

    private static void emptyNames() {
        S.of(TERMS, "EMPTY can be a NAME, if one of its ALTS has only NAMES that can be, or nothing.");
        Object[][] dues = {{"A:", 1}, {"A:'x/'y/'z/", 1}, {"A:'x", 0}, {"A:BBBBB;B:", 1}, {"A:BBBB'x;B:", 0}, {"A:BC;B:;C:'x", 0},
            {"A:B;B:C;C:D;D:E;E:F;F:G;G:H;H:", 1}, {"A:B;B:C;C:D;D:E;E:F;F:G;G:H;H:'x", 0}, {"A:'xA/B;B:'yA", 0},
            {"A:'x/'y/'z/B;B:'x/'y/'z/CC;C:", 1}, {"A:>B;B:=C;C:", 1}};
        for (Object[] d : dues) {
            S.due("rule(0, 2) of " + d[0], Due.made((String) d[0], "").rule(0, 2), (int) d[1]);
        }
    }

    private static void tokenSigns() {
        S.of(TERMS, "signs 33 .. 126 are TOKENS");
        for (int sign = 0; sign < 256; sign++) {
            ColumnGrammar x = new ColumnGrammar();
            boolean is = sign >= 33 && sign <= 126;
            boolean may = is || sign == 10 || sign == 32;
            S.due("text() of byte " + sign, Due.text(x, "" + (char) sign), is ? 1 : may ? 0 : -1000);
            S.due("token(0, 0)", x.token(0, 0), is ? sign : NONE);
        }
    }

    private static void twentyTokens() {
        S.of(TERMS, "(0, 1, .. as they stand; 20 at most)");
        ColumnGrammar x = new ColumnGrammar();
        S.due("20", Due.text(x, "abcdefghijklmnopqrst"), 20);
        for (int k = 0; k < 20; k++) {
            S.due("token(" + k + ", 0)", x.token(k, 0), 'a' + k);
            S.due("token(" + k + ", 2)", x.token(k, 2), k);
        }
        S.due("21", Due.text(x, "abcdefghijklmnopqrstu"), -1020);
    }

    private static void linesAndColumnsOfTokens() {
        S.of(TERMS, "10 begins a new LINE (0, 1, ..), 32 goes a COLUMN on;");
        ColumnGrammar x = Due.made("A:", "a\n\n b  c\nd\n");
        S.tokens(x, "a0,0 b2,1 c2,4 d3,0");
        Due.text(x, "\n\n\n");
        S.tokens(x, "");
        S.of(TERMS, "each sign's COLUMN is how many stand ahead of it in its LINE.");
        Due.text(x, "ab c\n" + Sentences.blanks(38) + "de");
        S.tokens(x, "a0,0 b0,1 c0,3 d1,38 e1,39");
    }

    private static void faultOfText() {
        S.of(TERMS, "FAULT: the first place of another byte, of a 21st TOKEN, of a TOKEN beyond COLUMN 39.");
        ColumnGrammar x = new ColumnGrammar();
        S.due("another byte", Due.text(x, "x \n\r x"), -1003);
        S.due("a 21st TOKEN", Due.text(x, Sentences.FULL + "\n  x\t"), -1026);
        S.due("another byte ahead of it", Due.text(x, "\t" + Sentences.FULL + "x"), -1000);
        S.due("another byte behind 20", Due.text(x, Sentences.FULL + " \tx"), -1024);
        S.due("beyond COLUMN 39", Due.text(x, "x\n" + Sentences.blanks(40) + "x"), -1042);
        S.due("beyond COLUMN 39, of two", Due.text(x, Sentences.blanks(39) + "xxx\t"), -1040);
        S.due("a 21st TOKEN at COLUMN 39", Due.text(x, "abcdefghijklmnopqrst" + Sentences.blanks(19) + "xx"), -1039);
        S.due("none of these", Due.text(x, Sentences.FULL + Sentences.blanks(60) + "\n\n "), 20);
    }

    private static void readingEmptiesTheText() {
        S.of(TERMS, "grammar() and text() empty THE TEXT whatever they answer; with a FAULT all else stays.");
        String[] faulty = {"A:'x;?", "A:'y/B", "A:'y/'zA/A", "\t", Sentences.FULL + "x", Sentences.blanks(40) + "x"};
        for (String text : faulty) {
            for (boolean grammar : new boolean[] {true, false}) {
                ColumnGrammar x = Sentences.rich();
                Due.type(x, text);
                boolean fault = (grammar ? x.grammar() : x.text()) <= -1000;
                ColumnGrammar same = Sentences.rich();
                same.end(0);
                S.due("count(3)", x.count(3), 0);
                if (fault) {
                    S.due("after " + text + " all that is shown", Shown.all(x), Shown.all(same));
                }
            }
        }
        ColumnGrammar x = new ColumnGrammar();
        Due.grammar(x, "A:'x");
        S.due("count(3) behind grammar()", x.count(3), 0);
        Due.text(x, "x");
        S.due("count(3) behind text()", x.count(3), 0);
        S.due("sign() comes first", x.sign(0), 4);
    }

    private static void faultsInTheirOrder() {
        S.of(TERMS, "FAULTS of one reading are looked for from the left, sign by sign, as they are read; those of NAMES "
            + "without RULES only if there is none of these, ROUNDS only if there is none of those either.");
        S.fault("A:A/B;C:?", 8);
        S.fault("A:A/B;C:", 4);
        S.fault("A:A/B;B:", 0);
        S.fault("A:A/B;A:;?", 6);
        S.fault("A:A/B;?A:", 6);
        S.fault("A:'a'b'c'd'e'f;A:////", 12);
        S.fault("A:////'a'b'c'd'e'f", 5);
        S.fault("A:A/B;C:'x=", 11);
    }

    private static void ruleWithNothing() {
        S.of(TERMS, "A RULE with nothing behind its : has one ALT without ITEMS.");
        ColumnGrammar x = Due.made("A:'x;B:  ;C:", "");
        for (int rule = 1; rule < 3; rule++) {
            S.due("ALTS", x.rule(rule, 1), 1);
            S.due("ITEMS", x.item(rule, 0, NONE, 0), 0);
            S.due("no ITEM", x.item(rule, 0, 0, 0), NONE);
            S.due("no second ALT", x.item(rule, 1, NONE, 0), NONE);
        }
    }

    private static void emptyText() {
        S.of(TERMS, "Of an empty THE TEXT the FAULT of grammar() is 0; text() has no TOKENS then.");
        S.due("grammar()", new ColumnGrammar().grammar(), -1000);
        S.due("text()", new ColumnGrammar().text(), 0);
        ColumnGrammar x = Sentences.rich();
        x.end(0);
        S.due("grammar()", x.grammar(), -1000);
        S.due("count(0)", x.count(0), 2);
        S.due("text()", x.text(), 0);
        S.due("count(1)", x.count(1), 0);
        S.due("grammar() behind text()", x.grammar(), -1000);
    }

    private static void blanksBeyondColumn39() {
        S.of(TERMS, "A TOKEN beyond COLUMN 39 is the FAULT, blanks beyond it are none.");
        ColumnGrammar x = new ColumnGrammar();
        S.due("blanks", Due.text(x, "x" + Sentences.blanks(239)), 1);
        S.due("blanks alone", Due.text(x, Sentences.blanks(240)), 0);
        S.due("blanks and a LINE", Due.text(x, Sentences.blanks(100) + "\nx"), 1);
        S.tokens(x, "x1,0");
        S.due("a TOKEN behind blanks", Due.text(x, "x" + Sentences.blanks(238) + "x"), -1239);
    }

    private static void whatReadingLeaves() {
        S.of(TERMS, "grammar() leaves TOKENS and what can be undone, text() the GRAMMAR; again() brings both.");
        ColumnGrammar x = Sentences.rich();
        String tokens = Shown.tokens(x);
        S.due("grammar()", Due.grammar(x, "Q:'q"), 1);
        S.tokens(x, tokens);
        S.due("count(5)", x.count(5), 3);
        S.due("undo()", x.undo(), 2);
        S.due("the TOKEN that was taken", x.token(5, 0), 'q');
        S.due("text()", Due.text(x, "q"), 1);
        S.due("rule(0, 0)", x.rule(0, 0), 'Q');
        S.due("count(5)", x.count(5), 0);
        S.due("again(0)", x.again(0), true);
        S.due("rule(0, 0)", x.rule(0, 0), 'A');
        S.tokens(x, "k0,0");
        x.again(1);
        S.due("rule(0, 0)", x.rule(0, 0), 'B');
        S.tokens(x, "x0,0 {0,1 x1,3 x2,2 x4,0");
    }
}
