/** The boundary cases that promises 1 to 10 name, a test for each sentence. */
public final class GrammarBoundariesTest {
    private static final int NONE = Sentences.NONE;
    private static final long ALL = Sentences.ALL;
    private static final long THROWN = Sentences.THROWN;
    private static final int LEAST = Sentences.LEAST;
    private static final int MOST = Sentences.MOST;
    private static final String EIGHT = "A:'a/'b/'c/'d;B:;C:;D:;E:;F:;G:;H:'x/=A>'~";
    private static final Sentences S = new Sentences();

    public static void main(String[] args) {
        p01NoGrammarNoTokens();
        p02TheHighestByteFirst();
        p02HowManyItHas();
        p02NoneBeyond240();
        p03FirstSignsAlone();
        p03NotSoMany();
        p04TextBecomesGrammar();
        p04NothingOfTheOneBefore();
        p04Fault();
        p05NothingCanBeUndone();
        p05HowMany();
        p05Fault();
        p06Rule();
        p06NoSuchRule();
        p06Others();
        p07HowManyItems();
        p07Item();
        p07Others();
        p08HowMany();
        p08Rising();
        p08Others();
        p09Write();
        p09NoGrammar();
        p10Free();
        p10NoSuchRule();
        S.finish(1, 10);
    }

    private static void due(String call, Sentences.Call on, long want) {
        S.due(call, on.on(new ColumnGrammar()), want);
    }

    private static void p01NoGrammarNoTokens() {
        S.of(1, "No GRAMMAR, no TOKENS.");
        for (int what = 0; what < 9; what++) {
            int w = what;
            due("count(" + w + ")", x -> x.count(w), w < 6 ? 0 : NONE);
            due("blame(" + w + ")", x -> x.blame(w), NONE);
            due("hint(" + w + ")", x -> x.hint(w), NONE);
            due("repair(" + w + ")", x -> x.repair(w), NONE);
            due("node(0, " + w + ")", x -> x.node(0, w), NONE);
            due("extent(0, " + w + ")", x -> x.extent(0, w), NONE);
            due("about(0, " + w + ")", x -> x.about(0, w), NONE);
            due("tree(" + w + ")", x -> x.tree(w), NONE);
            due("token(0, " + w + ")", x -> x.token(0, w), NONE);
            due("rule(0, " + w + ")", x -> Sentences.rule(x, 0, w), THROWN);
            due("item(0, 0, -1, " + w + ")", x -> x.item(0, 0, NONE, w), NONE);
        }
        due("fits()", x -> x.fits(), NONE);
        due("goesOn(0)", x -> x.goesOn(0), NONE);
        due("room(0)", x -> x.room(0), NONE);
        due("next(0, x)", x -> x.next(0, 'x'), 0);
        due("nodes()", x -> x.nodes(), NONE);
        due("ways(0)", x -> x.ways(0), NONE);
        due("off(0)", x -> x.off(0), NONE);
        due("first(0, -1)", x -> x.first(0, NONE), NONE);
        due("free(0)", x -> x.free(0), 0);
        due("where(0, 0, 0)", x -> x.where(0, 0, 0), 0);
        due("write()", x -> x.write(), NONE);
        due("print()", x -> x.print(), 0);
        due("letter(0)", x -> x.letter(0), NONE);
        due("move(0, 0)", x -> x.move(0, 0), -2);
        due("take(0)", x -> x.take(0), -2);
        due("change(0, x)", x -> x.change(0, 'x'), -2);
        due("part(0, 0)", x -> x.part(0, 0), -2);
        due("put(0, 0, x)", x -> x.put(0, 0, 'x'), 0);
        due("grow(0)", x -> x.grow(0), -3);
        due("undo()", x -> x.undo(), -3);
        due("grammar()", x -> x.grammar(), -1000);
        due("text()", x -> x.text(), 0);
        due("end(0)", x -> Sentences.truth(x.end(0)), 1);
        due("end(1)", x -> Sentences.truth(x.end(1)), 0);
        for (int k = 0; k < 2; k++) {
            int kept = k;
            due("again(" + k + ")", x -> Sentences.truth(x.again(kept)), 0);
            due("alike(" + k + ")", x -> x.alike(kept), NONE);
            due("keep(" + k + ")", x -> Sentences.truth(x.keep(kept)), 1);
        }
        S.due("NONE", ColumnGrammar.NONE, -1);
    }

    private static void p02TheHighestByteFirst() {
        S.of(2, "Four signs come behind THE TEXT, of v the highest byte first");
        ColumnGrammar x = new ColumnGrammar();
        x.sign(0x21407E41);
        x.sign(0x62636465);
        x.text();
        S.tokens(x, "!0,0 @0,1 ~0,2 A0,3 b0,4 c0,5 d0,6 e0,7");
        int[] bytes = {0xFF202020, 0x20802020, 0x20208020, 0x202020FF, -1, LEAST, MOST, 0};
        int[] places = {0, 1, 2, 3, 0, 0, 0, 0};
        for (int k = 0; k < bytes.length; k++) {
            x.sign(bytes[k]);
            S.due("text() of " + bytes[k], x.text(), -1000 - places[k]);
        }
    }

    private static void p02HowManyItHas() {
        S.of(2, "how many it has.");
        ColumnGrammar x = new ColumnGrammar();
        for (int n = 4; n <= 240; n += 4) {
            S.due("sign", x.sign(n), n);
            S.due("count(3)", x.count(3), n);
        }
        x.end(1);
        S.due("sign behind one", x.sign(0), 5);
    }

    private static ColumnGrammar typed(int signs) {
        ColumnGrammar x = new ColumnGrammar();
        Due.type(x, "x" + "\n".repeat(signs - 2) + "y");
        return x;
    }

    private static void p02NoneBeyond240() {
        S.of(2, "NONE, and none comes: there would be more than 240.");
        S.due("behind 236", typed(236).sign(0x20202020), 240);
        for (int n = 237; n <= 240; n++) {
            int signs = n;
            S.refused("sign behind " + n, () -> typed(signs), x -> x.sign(0x7A7A7A7A), NONE);
            ColumnGrammar x = typed(n);
            x.sign(0x7A7A7A7A);
            S.due("count(3)", x.count(3), n);
            S.due("sign once more", x.sign(0), NONE);
            S.due("text()", x.text(), 2);
            S.tokens(x, "x0,0 y" + (n - 2) + ",0");
        }
    }

    private static void p03FirstSignsAlone() {
        S.of(3, "THE TEXT has its first n signs alone: true;");
        for (int n = 0; n <= 5; n++) {
            ColumnGrammar x = new ColumnGrammar();
            Due.type(x, "abcde");
            S.due("end(" + n + ")", x.end(n), true);
            S.due("count(3)", x.count(3), n);
            S.due("text()", x.text(), n);
        }
        ColumnGrammar x = new ColumnGrammar();
        Due.type(x, "abcde");
        x.end(2);
        x.sign(0x78797A20);
        x.text();
        S.tokens(x, "a0,0 b0,1 x0,2 y0,3 z0,4");
        S.due("end(240)", typed(240).end(240), true);
        S.due("end(239)", typed(240).end(239), true);
    }

    private static void p03NotSoMany() {
        S.of(3, "false: it has not so many, n below 0.");
        for (int n : new int[] {-1, 6, 7, 240, 241, LEAST, MOST}) {
            S.refused("end(" + n + ")", Sentences::rich, x -> Sentences.truth(x.end(n)), 0);
        }
        S.due("end(241)", typed(240).end(241), false);
        S.due("what was cut off is gone", cutAndEnd(), false);
        S.due("empty, end(0)", new ColumnGrammar().end(0), true);
        S.due("empty, end(-1)", new ColumnGrammar().end(-1), false);
    }

    private static boolean cutAndEnd() {
        ColumnGrammar x = typed(8);
        x.end(4);
        return x.end(5);
    }

    private static void p04TextBecomesGrammar() {
        S.of(4, "THE TEXT becomes the GRAMMAR (TOKENS stay): how many RULES.");
        ColumnGrammar x = Due.made("Q:'q", "q\n  q");
        S.due("one", Due.grammar(x, "A:"), 1);
        S.due("eight", Due.grammar(x, EIGHT), 8);
        S.due("one", Due.grammar(x, "B:'x"), 1);
        S.due("none of the eight is left", Sentences.rule(x, 1, 0), THROWN);
        S.due("no ALT of theirs", x.item(0, 1, NONE, 0), NONE);
        S.due("rule(0, 0)", x.rule(0, 0), 'B');
        S.tokens(x, "q0,0 q1,2");
        ColumnGrammar same = Due.made("B:'x", "q\n  q");
        S.due("all is as with a new object", Shown.all(x), Shown.all(same));
    }

    private static void p04NothingOfTheOneBefore() {
        S.of(4, "THE TEXT becomes the GRAMMAR");
        String[] grammars = {"A:'x", "A:'xA", "A:'x/'y", "A:'x'y", "A:'x;B:'y/A", "A:B;B:'y", "A:'x/'y/'x'y/;B:A'y/'y", "A:>B;B:>'x/",
            "A:", "A:AA/'x", "A:BB/'y;B:BB/'x", "A:B;B:", "A:'x/B;B:'y'y'x/'y", "A:'xB'y/;B:A>A='x", EIGHT};
        for (String before : grammars) {
            for (String grammar : grammars) {
                ColumnGrammar x = Due.made(before, "xy");
                x.room(1);
                Due.grammar(x, "A:'x'y/B'x/'y;B:'x/?");
                Due.grammar(x, grammar);
                ColumnGrammar same = Due.made(grammar, "xy");
                S.due("of " + before + " in " + grammar, Shown.asked(x), Shown.asked(same));
                for (int seed = 0; seed < 6; seed++) {
                    S.due("grow(" + seed + ")", x.grow(seed), same.grow(seed));
                    S.tokens(x, Shown.tokens(same));
                }
            }
        }
    }

    private static void p04Fault() {
        S.of(4, "-1000 and less by p: a FAULT at p.");
        S.fault("?", 0);
        S.fault("A?", 1);
        S.fault("A" + Sentences.blanks(238) + "?", 239);
        S.fault("A" + Sentences.blanks(239), 240);
        ColumnGrammar x = new ColumnGrammar();
        Due.grammar(x, "A:?");
        S.due("no GRAMMAR yet", x.count(0), 0);
        S.due("no GRAMMAR yet", x.fits(), NONE);
        String[] faulty = {"A:;B:?", "Q:R", "Q:Q", "Q:'a'b'c'd'e'f", "Q:////", "Q:;Q:", ""};
        for (String text : faulty) {
            S.refused("grammar() of " + text, () -> emptied(), y -> Math.min(Due.grammar(y, text), -1000), -1000 - at(text));
        }
    }

    private static ColumnGrammar emptied() {
        ColumnGrammar x = Sentences.rich();
        x.end(0);
        return x;
    }

    private static int at(String faulty) {
        return faulty.startsWith("A") ? 5 : faulty.equals("Q:R") ? 2 : faulty.startsWith("Q:'") ? 12 : faulty.equals("Q:////") ? 5
            : faulty.equals("Q:;Q:") ? 3 : 0;
    }

    private static void p05NothingCanBeUndone() {
        S.of(5, "THE TEXT becomes TOKENS (nothing can be undone then)");
        ColumnGrammar x = Due.made("A:", "x");
        for (int k = 0; k < 12; k++) {
            x.move(0, 1);
        }
        Due.text(x, "a\n b");
        S.tokens(x, "a0,0 b1,1");
        S.due("count(5)", x.count(5), 0);
        S.due("undo()", x.undo(), -3);
        S.tokens(x, "a0,0 b1,1");
        x.move(0, 5);
        S.due("an ACT behind it", x.undo(), 0);
        S.tokens(x, "a0,0 b1,1");
        S.due("undo()", x.undo(), -3);
    }

    private static void p05HowMany() {
        S.of(5, ": how many.");
        ColumnGrammar x = new ColumnGrammar();
        S.due("20", Due.text(x, Sentences.FULL), 20);
        S.due("none of an empty one", x.text(), 0);
        S.due("count(1)", x.count(1), 0);
        S.due("one", Due.text(x, "\n\n~"), 1);
        S.due("none of blanks", Due.text(x, " \n "), 0);
        S.due("count(1)", x.count(1), 0);
    }

    private static void p05Fault() {
        S.of(5, "-1000 and less by p: a FAULT at p.");
        String[] faulty = {"\t", " \u007f", Sentences.FULL + "x", "\n" + Sentences.blanks(40) + "x", "x".repeat(19) + "\nx\n\0",
            Sentences.blanks(239) + "\u00ff"};
        int[] places = {0, 1, 23, 41, 22, 239};
        for (int k = 0; k < faulty.length; k++) {
            String text = faulty[k];
            S.refused("text() of " + text, () -> emptied(), x -> Due.text(x, text), -1000 - places[k]);
        }
    }

    private static void p06Rule() {
        S.of(6, "Of a RULE its NAME (what 0: its sign), how many ALTS (1), 1 if it can be EMPTY, else 0 (2).");
        ColumnGrammar x = Due.made(EIGHT, "");
        int[][] dues = {{0, 'A', 4, 0}, {1, 'B', 1, 1}, {6, 'G', 1, 1}, {7, 'H', 2, 0}};
        for (int[] d : dues) {
            for (int what = 0; what < 3; what++) {
                S.due("rule(" + d[0] + ", " + what + ")", x.rule(d[0], what), d[what + 1]);
            }
        }
        S.due("4 ALTS, the last EMPTY", Due.made("Z:'a/'b/'c/", "").rule(0, 2), 1);
    }

    private static void p06NoSuchRule() {
        S.of(6, "NoSuchElementException: none such;");
        for (int rule : new int[] {-1, 2, 8, 9, LEAST, MOST}) {
            for (int what : new int[] {0, 1, 2, -1, 3}) {
                S.due("rule(" + rule + ", " + what + ")", Sentences.rule(Sentences.rich(), rule, what), THROWN);
            }
            S.refused("rule(" + rule + ", 0)", Sentences::rich, x -> Sentences.rule(x, rule, 0), THROWN);
        }
        S.due("of eight the last", Sentences.rule(Due.made(EIGHT, ""), 7, 0), 'H');
        S.due("of eight none behind", Sentences.rule(Due.made(EIGHT, ""), 8, 0), THROWN);
        S.due("no GRAMMAR", Sentences.rule(Sentences.withoutGrammar(), 0, 0), THROWN);
    }

    private static void p06Others() {
        S.of(6, "NONE: others.");
        for (int what : new int[] {-1, 3, LEAST, MOST}) {
            S.refused("rule(0, " + what + ")", Sentences::rich, x -> Sentences.rule(x, 0, what), NONE);
        }
    }

    private static void p07HowManyItems() {
        S.of(7, "How many ITEMS an ALT has (k NONE, what 0);");
        ColumnGrammar x = Due.made("A:'a'b'c'd'e//'x/'x>B;B:", "");
        int[] items = {5, 0, 1, 2};
        for (int alt = 0; alt < 4; alt++) {
            S.due("item(0, " + alt + ", -1, 0)", x.item(0, alt, NONE, 0), items[alt]);
        }
        S.due("item(1, 0, -1, 0)", x.item(1, 0, NONE, 0), 0);
    }

    private static void p07Item() {
        S.of(7, "of the k-th: its PART's sign (what 0), 1 if it is a NAME, else 0 (1), its BOND's sign (2; 0 without).");
        ColumnGrammar x = Due.made("A:A='A>A*'~'!///A'=;Z:Z'y", "");
        int[][] dues = {{0, 0, 0, 'A', 1, 0}, {0, 0, 1, 'A', 0, '='}, {0, 0, 2, 'A', 1, '>'}, {0, 0, 3, '~', 0, '*'},
            {0, 0, 4, '!', 0, 0}, {0, 3, 0, 'A', 1, 0}, {0, 3, 1, '=', 0, 0}, {1, 0, 0, 'Z', 1, 0}, {1, 0, 1, 'y', 0, 0}};
        for (int[] d : dues) {
            for (int what = 0; what < 3; what++) {
                S.due("item(" + d[0] + ", " + d[1] + ", " + d[2] + ", " + what + ")", x.item(d[0], d[1], d[2], what), d[what + 3]);
            }
        }
    }

    private static void p07Others() {
        S.of(7, "NONE: others.");
        int[][] wrong = {{-1, 0, 0, 0}, {2, 0, 0, 0}, {LEAST, 0, -1, 0}, {MOST, 0, -1, 0}, {0, -1, -1, 0}, {0, 2, -1, 0},
            {0, 4, -1, 0}, {0, LEAST, -1, 0}, {0, MOST, -1, 0}, {0, 0, -2, 0}, {0, 0, 1, 0}, {0, 1, 2, 0}, {1, 1, 3, 2}, {1, 1, 5, 0},
            {0, 0, LEAST, 0}, {0, 0, MOST, 0}, {0, 0, -1, 1}, {0, 0, -1, 2}, {0, 0, -1, -1}, {0, 0, 0, -1}, {0, 0, 0, 3},
            {0, 0, 0, LEAST}, {0, 0, 0, MOST}};
        for (int[] w : wrong) {
            String call = "item(" + w[0] + ", " + w[1] + ", " + w[2] + ", " + w[3] + ")";
            S.refused(call, Sentences::rich, x -> x.item(w[0], w[1], w[2], w[3]), NONE);
        }
        S.due("an ALT without ITEMS", Due.made("A:'x/", "").item(0, 1, 0, 0), NONE);
        S.due("a fifth ALT", Due.made("A:///;B:'x", "").item(0, 4, NONE, 0), NONE);
        S.due("a sixth ITEM", Due.made("A:'a'b'c'd'e/'f", "").item(0, 0, 5, 0), NONE);
        S.due("a ninth RULE", Due.made(EIGHT, "").item(8, 0, NONE, 0), NONE);
        S.due("no GRAMMAR", Sentences.withoutGrammar().item(0, 0, NONE, 0), NONE);
    }

    private static void p08HowMany() {
        S.of(8, "Signs with which NODES of a RULE over one TOKEN or more can begin, whatever these are: how many (i NONE)");
        Object[][] dues = {{"A:", 0}, {"A:'x", 1}, {"A:BB;B:", 0}, {"A:B'y;B:/'x", 2}, {"A:B'y;B:'x", 1}, {"A:BBBBB;B:/'a/'b/'c", 3},
            {"A:'xA", 0}, {"A:'xA/'y", 2}, {"A:'xB/'y;B:'zB", 1}, {"A:A'x/'y", 1}, {"A:A'x/", 1}, {"A:'x'y/'x'z", 1},
            {"A:BCDEF;B:/'b;C:/'c;D:/'d;E:/'e;F:'f/'g/'h/'i", 8}, {"A:>B;B:>C;C:>D;D:>E;E:>F;F:>G;G:>H;H:>'x/>'y", 2}};
        for (Object[] d : dues) {
            S.due("first(0, -1) of " + d[0], Due.made((String) d[0], "q").first(0, NONE), (int) d[1]);
        }
    }

    private static void p08Rising() {
        S.of(8, "the i-th, rising.");
        ColumnGrammar x = Due.made("A:B'~/'m/'A;B:/'!/'z", "");
        int[] rising = {'!', 'A', 'm', 'z', '~'};
        S.due("how many", x.first(0, NONE), 5);
        for (int i = 0; i < 5; i++) {
            S.due("first(0, " + i + ")", x.first(0, i), rising[i]);
        }
        S.due("first(1, 0)", x.first(1, 0), '!');
        S.due("first(1, 1)", x.first(1, 1), 'z');
        // The first ALT of the next RULE is not a fifth one.
        x = Due.made("A:'a/'b/'c/'d;B:'e", "e");
        S.due("of four ALTS", x.first(0, NONE), 4);
        S.due("the last of them", x.first(0, 3), 'd');
    }

    private static void p08Others() {
        S.of(8, "NONE: others.");
        int[][] wrong = {{0, 1}, {0, -2}, {0, LEAST}, {0, MOST}, {-1, -1}, {-1, 0}, {2, -1}, {2, 0}, {LEAST, 0}, {MOST, -1}};
        for (int[] w : wrong) {
            S.refused("first(" + w[0] + ", " + w[1] + ")", Sentences::rich, x -> x.first(w[0], w[1]), NONE);
        }
        S.due("none can begin", Due.made("A:", "").first(0, 0), NONE);
        S.due("the last RULE", Due.made(EIGHT, "").first(7, NONE), 5);
        S.due("behind the last RULE", Due.made(EIGHT, "").first(8, NONE), NONE);
        S.due("no GRAMMAR", Sentences.withoutGrammar().first(0, NONE), NONE);
    }

    private static void p09Write() {
        S.of(9, "The GRAMMAR becomes THE LINE as its TEXT, without blanks, RULES and ALTS as they stand: how many signs.");
        String five = "'a'b'c'd'e";
        String rule = ":" + five + "/" + five + "/" + five + "/" + five + ";";
        String longest = "A" + rule + "B" + rule + "C" + rule + "D" + rule + "E" + rule + "F:'v'w'x'y";
        String[] grammars = {"A:", "A:///", "Z:;Y:", "A:='=>'>*'*'/';/': ''".replace(" ", ""), EIGHT, longest};
        S.due("the longest", longest.length(), 240);
        for (String grammar : grammars) {
            ColumnGrammar x = Due.made(grammar, "");
            S.due("write() of " + grammar, x.write(), grammar.length());
            S.due("THE LINE", Due.line(x), grammar);
            S.due("letter behind it", x.letter(grammar.length()), NONE);
        }
        ColumnGrammar x = Due.made(" A : > 'x / ; B: ", "");
        S.due("write()", x.write(), 9);
        S.due("THE LINE", Due.line(x), "A:>'x/;B:");
    }

    private static ColumnGrammar printedWithoutGrammar() {
        ColumnGrammar x = Sentences.withoutGrammar();
        x.print();
        return x;
    }

    private static void p09NoGrammar() {
        S.of(9, "NONE: no GRAMMAR.");
        S.refused("write()", GrammarBoundariesTest::printedWithoutGrammar, x -> x.write(), NONE);
        ColumnGrammar x = printedWithoutGrammar();
        x.write();
        S.due("THE LINE stays", Due.line(x), "x y\n  z");
        x.keep(0);
        Due.grammar(x, "A:");
        S.due("write()", x.write(), 2);
        x.again(0);
        S.due("no GRAMMAR again", x.write(), NONE);
    }

    private static void p10Free() {
        S.of(10, "FREE, as bits.");
        ColumnGrammar x = Due.made("A:>B;B:>C;C:>D;D:>E;E:>F;F:>G;G:>H;H:>'x", "");
        for (int rule = 0; rule < 8; rule++) {
            S.due("free(" + rule + ")", x.free(rule), ALL >>> (8 - rule));
        }
        Object[][] dues = {{"A:", ALL}, {"A:'x", ALL}, {"A:='x", ALL}, {"A:>'x", ALL >>> 1}, {"A:>'x/", ALL}, {"A:*B;B:>'x", ALL},
            {"A:=B;B:>'x", ALL >>> 1}, {"A:B;B:>'x", ALL >>> 1}, {"A:>B;B:>'x", ALL >>> 2}, {"A:'xA", 0L}, {"A:'x*A", 0L},
            {"A:>A'x/'y", ALL}, {"A:'x>A/>'y", ALL >>> 1}, {"A:*A'x/>'y", ALL}};
        for (Object[] d : dues) {
            S.due("free(0) of " + d[0], Due.made((String) d[0], "").free(0), (long) d[1]);
        }
    }

    private static void p10NoSuchRule() {
        S.of(10, "0: no such RULE.");
        for (int rule : new int[] {-1, 2, 7, 8, LEAST, MOST}) {
            S.refused("free(" + rule + ")", Sentences::rich, x -> x.free(rule), 0);
        }
        S.due("the last", Due.made(EIGHT, "").free(7), ALL);
        S.due("behind the last", Due.made(EIGHT, "").free(8), 0);
        S.due("no GRAMMAR", Sentences.withoutGrammar().free(0), 0);
    }
}
