/** The boundary cases that promises 26 to 30 and 32 name, a test for each sentence. */
public final class LinesBoundariesTest {
    private static final int NONE = Sentences.NONE;
    private static final int LEAST = Sentences.LEAST;
    private static final int MOST = Sentences.MOST;
    private static final Sentences S = new Sentences();

    public static void main(String[] args) {
        p26Move();
        p26ZeroIsAnAct();
        p26NoSuchNumber();
        p26LineWithoutTokens();
        p26BeyondTheColumns();
        p27Put();
        p27LineThatMayBe();
        p27NoSuchNumber();
        p27TokenIsThere();
        p27ThereAre20();
        p28Take();
        p28NoSuchToken();
        p29Change();
        p29Refused();
        p30Part();
        p30Refused();
        p32Undo();
        p32RoundAndRound();
        p32None();
        S.finish(26, 32, 31);
    }

    private static void p26Move() {
        S.of(26, "A LINE is MOVED by so many COLUMNS (-39 .. 39;");
        ColumnGrammar x = Due.made("A:", "x\n\n" + Sentences.blanks(39) + "y");
        S.due("move(0, 39)", x.move(0, 39), 1);
        S.due("move(2, -39)", x.move(2, -39), 1);
        S.tokens(x, "x0,39 y2,0");
        S.due("move(0, -39)", x.move(0, -39), 1);
        S.due("move(2, 39)", x.move(2, 39), 1);
        S.tokens(x, "x0,0 y2,39");
        S.of(26, "how many TOKENS.");
        S.due("five", Sentences.full().move(0, 1), 5);
        Due.text(x, "x".repeat(20));
        S.due("20", x.move(0, 20), 20);
        S.due("the last TOKEN", x.token(19, 2), 39);
        S.due("the first TOKEN", x.token(0, 2), 20);
        Due.text(x, "\n".repeat(239) + "z");
        S.due("in the greatest LINE of a text", x.move(239, 1), 1);
    }

    private static void p26ZeroIsAnAct() {
        S.of(26, "0 is an ACT, too)");
        ColumnGrammar x = Sentences.rich();
        S.due("move(0, 0)", x.move(0, 0), 2);
        S.due("count(5)", x.count(5), 4);
        S.tokens(x, Shown.tokens(Sentences.rich()));
        S.due("undo()", x.undo(), 3);
        S.tokens(x, Shown.tokens(Sentences.rich()));
        S.due("undo()", x.undo(), 2);
        S.due("the TOKEN that was taken", x.count(1), 6);
    }

    private static void p26NoSuchNumber() {
        S.of(26, "-1;");
        for (int by : new int[] {-40, 40, 41, LEAST, MOST}) {
            S.refused("move(0, " + by + ")", Sentences::rich, x -> x.move(0, by), -1);
        }
        S.refused("move(3, 40)", Sentences::rich, x -> x.move(3, 40), -1);
    }

    private static void p26LineWithoutTokens() {
        S.of(26, "-2 (a LINE without TOKENS, too);");
        for (int line : new int[] {-1, 3, 5, 6, LEAST, MOST}) {
            S.refused("move(" + line + ", 0)", Sentences::rich, x -> x.move(line, 0), -2);
        }
        S.due("the last LINE", Sentences.rich().move(4, 39), 1);
        S.refused("no TOKENS", Sentences::withoutTokens, x -> x.move(0, 0), -2);
        ColumnGrammar x = Due.made("A:", "x\ny");
        x.take(0);
        S.due("a LINE whose TOKEN was taken", x.move(0, 0), -2);
        S.due("the one behind it", x.move(1, 0), 1);
    }

    private static void p26BeyondTheColumns() {
        S.of(26, "-3: one would not be 0 .. 39.");
        S.due("LINE 0 by 38", Sentences.rich().move(0, 38), 2);
        S.refused("LINE 0 by 39", Sentences::rich, x -> x.move(0, 39), -3);
        S.refused("LINE 0 by -1", Sentences::rich, x -> x.move(0, -1), -3);
        S.due("LINE 1 by -3", Sentences.rich().move(1, -3), 1);
        S.refused("LINE 1 by -4", Sentences::rich, x -> x.move(1, -4), -3);
        S.due("LINE 1 by 36", Sentences.rich().move(1, 36), 1);
        S.refused("LINE 1 by 37", Sentences::rich, x -> x.move(1, 37), -3);
        S.refused("of 20: LINE 3 by 1", Sentences::full, x -> x.move(3, 1), -3);
        S.due("of 20: LINE 3 by -35", Sentences.full().move(3, -35), 5);
        S.refused("of 20: LINE 3 by -36", Sentences::full, x -> x.move(3, -36), -3);
    }

    private static void p27Put() {
        S.of(27, "at a COLUMN: its TOKEN.");
        Object[][] dues = {{0, 0, 0, "X0,0 a0,1 b0,3 c2,1"}, {0, 2, 1, "a0,1 X0,2 b0,3 c2,1"}, {0, 39, 2, "a0,1 b0,3 X0,39 c2,1"},
            {1, 5, 2, "a0,1 b0,3 X1,5 c2,1"}, {2, 0, 2, "a0,1 b0,3 X2,0 c2,1"}, {2, 39, 3, "a0,1 b0,3 c2,1 X2,39"},
            {3, 0, 3, "a0,1 b0,3 c2,1 X3,0"}};
        for (Object[] d : dues) {
            ColumnGrammar x = Due.made("A:", " a b\n\n c");
            S.due("put(" + d[0] + ", " + d[1] + ", X)", x.put((int) d[0], (int) d[1], 'X'), (int) d[2]);
            S.tokens(x, (String) d[3]);
            S.due("an ACT", x.count(5), 1);
        }
    }

    private static void p27LineThatMayBe() {
        S.of(27, "A sign is PUT in a LINE (0 .. the last one that has TOKENS, and 1 more)");
        ColumnGrammar x = new ColumnGrammar();
        S.due("without TOKENS LINE 1", x.put(1, 0, 'a'), -1);
        S.due("without TOKENS LINE 0", x.put(0, 0, 'a'), 0);
        S.due("LINE 2", x.put(2, 0, 'b'), -1);
        S.due("LINE 1", x.put(1, 0, 'b'), 1);
        S.due("LINE 3", x.put(3, 0, 'c'), -1);
        S.due("LINE 2", x.put(2, 0, 'c'), 2);
        x.take(2);
        S.due("the last one that has TOKENS is 1 again", x.put(3, 0, 'd'), -1);
        S.due("1 more", x.put(2, 0, 'd'), 2);
        x.take(1);
        S.due("a LINE between without TOKENS", x.put(1, 39, 'e'), 1);
        Due.text(x, "x\n\n\n");
        S.due("the last one that has TOKENS is 0", x.put(2, 0, 'f'), -1);
        Due.text(x, "\n".repeat(239) + "x");
        S.due("LINE 241", x.put(241, 0, 'g'), -1);
        S.due("LINE 240", x.put(240, 0, 'g'), 1);
        S.due("its LINE", x.token(1, 1), 240);
    }

    private static void p27NoSuchNumber() {
        S.of(27, "-1 (the LINE, too);");
        int[][] wrong = {{-1, 0, 'x'}, {6, 0, 'x'}, {LEAST, 0, 'x'}, {MOST, 0, 'x'}, {0, -1, 'x'}, {0, 40, 'x'}, {0, LEAST, 'x'},
            {0, MOST, 'x'}, {0, 5, 32}, {0, 5, 127}, {0, 5, 0}, {0, 5, -1}, {0, 5, LEAST}, {0, 5, MOST}, {0, 5, 'x' + 256}, {0, 0, 32},
            {6, 40, 32}};
        for (int[] w : wrong) {
            S.refused("put(" + w[0] + ", " + w[1] + ", " + w[2] + ")", Sentences::rich, x -> x.put(w[0], w[1], w[2]), -1);
        }
        S.due("LINE 5", Sentences.rich().put(5, 0, 'x'), 5);
        S.due("COLUMN 39", Sentences.rich().put(0, 39, 'x'), 2);
        S.due("sign 33", Sentences.rich().put(0, 5, 33), 2);
        S.due("sign 126", Sentences.rich().put(0, 5, 126), 2);
        S.refused("there are 20: a sign that can't be", Sentences::full, x -> x.put(0, 20, 127), -1);
        S.refused("without TOKENS: LINE 1", Sentences::withoutTokens, x -> x.put(1, 0, 'x'), -1);
    }

    private static void p27TokenIsThere() {
        S.of(27, "-3: a TOKEN is there,");
        int[][] there = {{0, 0}, {0, 1}, {1, 3}, {2, 3}, {4, 0}};
        for (int[] t : there) {
            S.refused("put(" + t[0] + ", " + t[1] + ", y)", Sentences::rich, x -> x.put(t[0], t[1], 'y'), -3);
        }
        S.due("where it was taken", takenAndPut(), 0);
    }

    private static int takenAndPut() {
        ColumnGrammar x = Sentences.rich();
        x.take(0);
        return x.put(0, 0, 'y');
    }

    private static void p27ThereAre20() {
        S.of(27, "or there are 20.");
        S.refused("a free COLUMN", Sentences::full, x -> x.put(0, 20, 'y'), -3);
        S.refused("a new LINE", Sentences::full, x -> x.put(4, 0, 'y'), -3);
        ColumnGrammar x = Sentences.full();
        x.take(0);
        S.due("19", x.put(4, 0, 'y'), 19);
        S.due("20 again", x.put(4, 1, 'y'), -3);
        Due.text(x, "x".repeat(19));
        S.due("ahead of 19", x.put(0, 19, 'y'), 19);
        x.undo();
        x.move(0, 1);
        S.due("ahead of 19", x.put(0, 0, 'y'), 0);
        S.due("the last", x.token(19, 2), 19);
    }

    private static void p28Take() {
        S.of(28, "A TOKEN is TAKEN: how many are left.");
        ColumnGrammar x = Due.made("A:", " a b\n\n c");
        S.due("take(1)", x.take(1), 2);
        S.tokens(x, "a0,1 c2,1");
        S.due("take(1)", x.take(1), 1);
        S.tokens(x, "a0,1");
        S.due("take(0)", x.take(0), 0);
        S.tokens(x, "");
        S.due("ACTS", x.count(5), 3);
        S.due("of 20 the last", Sentences.full().take(19), 19);
        S.due("of 20 the first", Sentences.full().take(0), 19);
        x.undo();
        S.due("the first of one", x.take(0), 0);
    }

    private static void p28NoSuchToken() {
        S.of(28, "-2.");
        for (int token : new int[] {-1, 5, 20, LEAST, MOST}) {
            S.refused("take(" + token + ")", Sentences::rich, x -> x.take(token), -2);
        }
        S.due("the last one", Sentences.rich().take(4), 4);
        S.refused("take(20) of 20", Sentences::full, x -> x.take(20), -2);
        S.refused("no TOKENS", Sentences::withoutTokens, x -> x.take(0), -2);
    }

    private static void p29Change() {
        S.of(29, "A TOKEN becomes a sign (33 .. 126): what it was.");
        ColumnGrammar x = Sentences.rich();
        S.due("change(1, 33)", x.change(1, 33), '{');
        S.due("token(1, 0)", x.token(1, 0), 33);
        S.due("change(1, 126)", x.change(1, 126), 33);
        S.due("token(1, 0)", x.token(1, 0), 126);
        S.due("its COLUMN", x.token(1, 2), 1);
        S.due("the last", x.change(4, 33), 'x');
        S.due("ACTS", x.count(5), 6);
        S.due("the 20th", Sentences.full().change(19, 'y'), 'x');
    }

    private static void p29Refused() {
        S.of(29, "-1; -2; -3: it is so.");
        for (int sign : new int[] {32, 127, 0, -1, 10, LEAST, MOST, 'y' + 256}) {
            S.refused("change(0, " + sign + ")", Sentences::rich, x -> x.change(0, sign), -1);
        }
        for (int token : new int[] {-1, 5, 20, LEAST, MOST}) {
            S.refused("change(" + token + ", y)", Sentences::rich, x -> x.change(token, 'y'), -2);
            S.refused("change(" + token + ", 127)", Sentences::rich, x -> x.change(token, 127), -1);
        }
        S.refused("change(0, x)", Sentences::rich, x -> x.change(0, 'x'), -3);
        S.refused("change(1, {)", Sentences::rich, x -> x.change(1, '{'), -3);
        S.refused("change(20, y) of 20", Sentences::full, x -> x.change(20, 'y'), -2);
        S.refused("no TOKENS", Sentences::withoutTokens, x -> x.change(0, 'y'), -2);
    }

    private static void p30Part() {
        S.of(30, "A LINE is PARTED ahead of a TOKEN, which stands at a COLUMN then: the new LINE.");
        Object[][] dues = {{1, 0, 1, "a0,0 b1,0 c1,3 d3,0"}, {1, 36, 1, "a0,0 b1,36 c1,39 d3,0"}, {2, 0, 1, "a0,0 b0,2 c1,0 d3,0"},
            {2, 39, 1, "a0,0 b0,2 c1,39 d3,0"}, {2, 5, 1, "a0,0 b0,2 c1,5 d3,0"}};
        for (Object[] d : dues) {
            ColumnGrammar x = Due.made("A:", "a b  c\n\nd");
            S.due("part(" + d[0] + ", " + d[1] + ")", x.part((int) d[0], (int) d[1]), (int) d[2]);
            S.tokens(x, (String) d[3]);
            S.due("an ACT", x.count(5), 1);
        }
        ColumnGrammar x = Due.made("A:", Sentences.FULL);
        S.due("the 20th of 20", x.part(19, 39), 4);
        S.due("its COLUMN", x.token(19, 2), 39);
        Due.text(x, "\n".repeat(238) + "xy");
        S.due("behind the greatest LINE of a text", x.part(1, 0), 239);
    }

    private static void p30Refused() {
        S.of(30, "-1; -2; -3: it is the first TOKEN of its LINE, or one would be beyond 39.");
        for (int column : new int[] {-1, 40, LEAST, MOST}) {
            S.refused("part(1, " + column + ")", Sentences::rich, x -> x.part(1, column), -1);
            S.refused("part(5, " + column + ")", Sentences::rich, x -> x.part(5, column), -1);
        }
        for (int token : new int[] {-1, 5, 20, LEAST, MOST}) {
            S.refused("part(" + token + ", 0)", Sentences::rich, x -> x.part(token, 0), -2);
        }
        for (int token : new int[] {0, 2, 3, 4}) {
            S.refused("part(" + token + ", 0)", Sentences::rich, x -> x.part(token, 0), -3);
        }
        S.due("part(1, 39)", Sentences.rich().part(1, 39), 1);
        S.refused("no TOKENS", Sentences::withoutTokens, x -> x.part(0, 0), -2);
        S.refused("part(20, 0) of 20", Sentences::full, x -> x.part(20, 0), -2);
        S.due("of five, four at 36 .. 39", Sentences.full().part(1, 36), 1);
        S.refused("of five, one beyond", Sentences::full, x -> x.part(1, 37), -3);
        S.due("of the last LINE four at 36 .. 39", Sentences.full().part(16, 36), 4);
        S.refused("of the last LINE one beyond", Sentences::full, x -> x.part(16, 37), -3);
    }

    /** One ACT of each kind, that answers 0 or more. */
    private static final Sentences.Call[] ACTS = {x -> x.move(0, 1), x -> x.put(0, 30, 'y'), x -> x.take(0), x -> x.change(0, 'q'),
        x -> x.part(1, 0), x -> x.grow(7)};

    private static void p32Undo() {
        S.of(32, "The latest ACT is undone: how many can be yet.");
        for (int k = 0; k < ACTS.length; k++) {
            ColumnGrammar x = Sentences.rich();
            S.due("ACT " + k + " is done", ACTS[k].on(x) >= 0, true);
            S.due("count(5)", x.count(5), 4);
            S.due("undo()", x.undo(), 3);
            S.due("all that is shown", Shown.all(x), Shown.all(Sentences.rich()));
        }
        ColumnGrammar x = Sentences.full();
        x.take(19);
        S.due("undo()", x.undo(), 1);
        S.due("undo()", x.undo(), 0);
        S.due("all 20 are there", Shown.tokens(x), Shown.tokens(Due.made("A:", Sentences.FULL)));
        x = Due.made("A:", "");
        x.put(0, 0, 'x');
        S.due("undo()", x.undo(), 0);
        S.due("none is there", x.count(1), 0);
    }

    /** The COLUMN tells how many ACTS were done and not undone, as each moves by 1. */
    private static void p32RoundAndRound() {
        S.of(32, "how many can be yet.");
        ColumnGrammar x = Due.made("A:", "x");
        int done = 0;
        int can = 0;
        int[] steps = {10, -5, 7, -10, -1, 3, -2, 12, -10, -1, 9, -4, 5, -10};
        for (int step : steps) {
            for (int k = 0; k < Math.abs(step); k++) {
                if (step > 0) {
                    S.due("move", x.move(0, 1), 1);
                    done++;
                    can = Math.min(can + 1, 10);
                } else {
                    S.due("undo()", x.undo(), can > 0 ? can - 1 : -3);
                    done -= can > 0 ? 1 : 0;
                    can = Math.max(can - 1, 0);
                }
                S.due("the COLUMN", x.token(0, 2), done);
            }
        }
    }

    private static void p32None() {
        S.of(32, "-3: none.");
        S.refused("a new object", ColumnGrammar::new, x -> x.undo(), -3);
        S.refused("behind text()", () -> Due.made("A:'x", "x"), x -> x.undo(), -3);
        ColumnGrammar x = Sentences.rich();
        x.again(1);
        S.due("behind again()", x.undo(), -3);
        x = Sentences.withoutTokens();
        S.due("one", x.undo(), 0);
        S.due("none", x.undo(), -3);
        S.due("none, again", x.undo(), -3);
        S.tokens(x, "x0,0");
        x = Due.made("A:'xA", "x");
        x.move(0, 40);
        x.move(0, -1);
        x.put(0, 0, 'y');
        x.take(1);
        x.change(0, 'x');
        x.part(0, 0);
        x.grow(0);
        S.due("what was refused is no ACT", x.undo(), -3);
    }
}
