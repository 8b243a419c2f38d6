import java.util.ArrayList;
import java.util.List;
import java.util.NoSuchElementException;
import java.util.Random;

/** Drawn runs of calls on an object and on the Model: every answer must be the same. Arguments: first seed, how many runs. */
public final class RandomRunsTest {
    private static final String[] GRAMMARS = {
        "B:=L/=L=B;L:'x/'x'{>B", "B:L/BL;L:'x/'x'{>B", "S:'(*E');E:='a/='a=E", "S:'x/S>'y", "A:'x/'y;B:",
        "A:/'xA;B:A=A'y", "S:=E/=ES;E:'a/'(*E')/'a>S", "A:B>C=D*E;B:/'x;C:'y/;D:'x;E:/'y'x", "S:AA;A:/'x/'x'x",
        "A:'xA'x/'y", "S:>S'x/'y", "E:E'+T/T;T:'a/'(*E')", "S:*A*B;A:>'x/;B:='y/>S", "A:BBB;B:CCC;C:'x/",
        "A:'x>A", "A:'x>A/B;B:=B'y/'z", "S:=I=S/;I:'i'::>S/'p", "A:>B;B:>C;C:>D;D:", "S:'a'b'c'd'e/S>'a",
        "D:=K=D/=K;K:'k'='v/'k>D", "S:A;A:B;B:C;C:'xA/'xA/'x'yA/'x", "S:=A>A=A;A:'x/'y/'xA", "A:*A'x/'x", "S:L=S/L;L:'[*L']/'x/'[']",
    };

    private final Random random;
    private final int seed;
    private final ColumnGrammar x = new ColumnGrammar();
    private final Model m = new Model();
    private final List<String> trace = new ArrayList<>();
    private boolean wrong;

    private RandomRunsTest(int seed) {
        this.seed = seed;
        random = new Random(seed);
    }

    public static void main(String[] args) {
        int from = args.length > 0 ? Integer.parseInt(args[0]) : 1;
        int runs = args.length > 1 ? Integer.parseInt(args[1]) : 150;
        int wrong = 0;
        long calls = 0;
        for (int seed = from; seed < from + runs && wrong < 3; seed++) {
            RandomRunsTest run = new RandomRunsTest(seed);
            run.play();
            calls += run.trace.size();
            wrong += run.wrong ? 1 : 0;
        }
        System.out.println(calls + " calls, " + (wrong == 0 ? "all answers alike" : wrong + " runs differ"));
        if (wrong != 0) {
            System.exit(1);
        }
    }

    private int below(int n) {
        return random.nextInt(n);
    }

    private boolean due(String call, long got, long want) {
        trace.add(call + " = " + got);
        if (got != want && !wrong) {
            wrong = true;
            System.out.println("seed " + seed + ": " + call + " answered " + got + ", due is " + want);
            trace.stream().skip(Math.max(0, trace.size() - 60)).forEach(c -> System.out.println("    " + c));
        }
        return got == want;
    }

    private void play() {
        int calls = 150 + below(200);
        while (trace.size() < calls && !wrong) {
            int kind = below(100);
            if (kind < 3 || m.rules.isEmpty() && kind < 90) {
                type(drawGrammar());
                due("grammar()", x.grammar(), m.grammar());
                growSome();
            } else if (kind < 5) {
                growSome();
            } else if (kind < 7) {
                type(drawText());
                due("text()", x.text(), m.text());
            } else if (kind < 8) {
                typeOne();
            } else if (kind < 10) {
                askAll();
            } else if (kind < 12) {
                shake();
            } else if (kind < 20) {
                change();
            } else if (kind < 40) {
                askSmall();
            } else {
                askFits();
            }
        }
    }

    /** Grows till there are a few TOKENS, and types these closer to one another, as grown ones stand far apart. */
    private void growSome() {
        for (int tries = 0; tries < 12 && !wrong; tries++) {
            int growSeed = below(1_000_000);
            due("grow(" + growSeed + ")", x.grow(growSeed), m.grow(growSeed));
            int n = m.tokens.size();
            if (n >= 2 && n <= 9) {
                break;
            }
        }
        if (below(3) == 0) {
            return;
        }
        List<Integer> columns = m.tokens.stream().map(Model.Token::column).distinct().sorted().toList();
        int wide = 1 + below(2);
        StringBuilder b = new StringBuilder();
        int line = 0;
        int column = 0;
        for (Model.Token t : m.tokens) {
            for (; line < t.line(); line++) {
                b.append('\n');
                column = 0;
            }
            int to = columns.indexOf(t.column()) * wide;
            b.append(" ".repeat(to - column)).append((char) t.sign());
            column = to + 1;
        }
        if (b.length() < 200) {
            type(b.toString());
            due("text()", x.text(), m.text());
        }
    }

    private void type(String text) {
        // What an earlier typing left is in the way most of the time.
        if (below(10) > 0) {
            due("end(0)", x.end(0) ? 1 : 0, m.end(0) ? 1 : 0);
        }
        String padded = text + " ".repeat((4 - text.length() % 4) % 4);
        for (int k = 0; k < padded.length(); k += 4) {
            int v = padded.charAt(k) << 24 | padded.charAt(k + 1) << 16 | padded.charAt(k + 2) << 8 | padded.charAt(k + 3);
            due("sign(" + v + ")", x.sign(v), m.sign(v));
        }
        if (below(2) == 0) {
            due("end(" + text.length() + ")", x.end(text.length()) ? 1 : 0, m.end(text.length()) ? 1 : 0);
        }
    }

    private void typeOne() {
        int v = random.nextInt();
        due("sign(" + v + ")", x.sign(v), m.sign(v));
        int n = below(250) - 4;
        due("end(" + n + ")", x.end(n) ? 1 : 0, m.end(n) ? 1 : 0);
        if (below(3) == 0) {
            due("grammar()", x.grammar(), m.grammar());
        } else if (below(3) == 0) {
            due("text()", x.text(), m.text());
        }
    }

    private String drawGrammar() {
        StringBuilder b = new StringBuilder(below(2) == 0 ? GRAMMARS[below(GRAMMARS.length)] : drawRules());
        for (int k = b.length(); k >= 0; k--) {
            boolean quoted = k > 0 && b.charAt(k - 1) == '\'';
            if (!quoted && below(20) == 0 && b.length() < 230) {
                b.insert(k, ' ');
            }
        }
        if (below(8) == 0) {
            int at = below(b.length());
            b.setCharAt(at, ":;/'=>* ABxS\n~\u007f\u00e9!".charAt(below(17)));
        }
        if (below(12) == 0) {
            b.setLength(below(b.length() + 1));
        }
        return b.toString();
    }

    private String drawRules() {
        int rules = 1 + below(below(4) == 0 ? 9 : 4);
        StringBuilder b = new StringBuilder();
        for (int r = 0; r < rules && b.length() < 200; r++) {
            b.append(r > 0 ? ";" : "").append((char) ('A' + r)).append(':');
            int alts = 1 + below(below(20) == 0 ? 5 : 3);
            for (int a = 0; a < alts && b.length() < 200; a++) {
                b.append(a > 0 ? "/" : "");
                int items = below(below(20) == 0 ? 7 : 4);
                for (int k = 0; k < items; k++) {
                    b.append(new String[] {"", "", "=", ">", "*"}[below(5)]);
                    boolean name = below(5) < 2;
                    // NAMES of later RULES mostly, that few ROUNDS come up.
                    int target = below(4) == 0 ? below(rules) : Math.min(rules - 1, r + 1 + below(2));
                    b.append(name ? "" + (char) ('A' + target) : "'" + "xy{".charAt(below(3)));
                }
            }
        }
        return b.toString();
    }

    private String drawText() {
        StringBuilder b = new StringBuilder();
        List<Integer> signs = new ArrayList<>(Model.signs(m.rules));
        signs.add((int) 'x');
        int tokens = below(30) == 0 ? 22 : below(9);
        for (int k = 0; k < tokens && b.length() < 200; k++) {
            b.append(below(3) == 0 ? "" : "\n" + (below(12) == 0 ? "\n" : ""));
            b.append(" ".repeat(below(40) == 0 ? below(45) : below(4)));
            b.append((char) (int) signs.get(below(signs.size())));
        }
        if (below(25) == 0 && b.length() > 0) {
            b.setCharAt(below(b.length()), (char) below(256));
        }
        return b.toString();
    }

    /** 0 up to top, now and then one beside it. */
    private int near(int top) {
        return below(8) == 0 ? below(2) == 0 ? -1 : top + 1 : below(top + 1);
    }

    private int drawSign() {
        List<Integer> signs = new ArrayList<>(Model.signs(m.rules));
        return signs.isEmpty() || below(10) == 0 ? 30 + below(100) : signs.get(below(signs.size()));
    }

    private void change() {
        int n = m.tokens.size();
        int lines = n == 0 ? 0 : m.tokens.get(n - 1).line();
        switch (below(14)) {
            case 0, 1, 2: {
                int line = near(lines);
                int by = below(10) == 0 ? below(90) - 45 : below(9) - 4;
                due("move(" + line + ", " + by + ")", x.move(line, by), m.move(line, by));
                break;
            }
            case 3, 4: {
                int line = near(lines);
                int column = below(8) == 0 ? near(40) : below(6);
                int sign = drawSign();
                due("put(" + line + ", " + column + ", " + sign + ")", x.put(line, column, sign), m.put(line, column, sign));
                break;
            }
            case 5: {
                int token = near(n);
                due("take(" + token + ")", x.take(token), m.take(token));
                break;
            }
            case 6: {
                int token = near(n);
                int sign = drawSign();
                due("change(" + token + ", " + sign + ")", x.change(token, sign), m.change(token, sign));
                break;
            }
            case 7: {
                int token = near(n);
                int column = below(6) == 0 ? near(40) : below(6);
                due("part(" + token + ", " + column + ")", x.part(token, column), m.part(token, column));
                break;
            }
            case 8: {
                int growSeed = below(20) == 0 ? (below(2) == 0 ? -1 : 1_000_000) : below(1_000_000);
                due("grow(" + growSeed + ")", x.grow(growSeed), m.grow(growSeed));
                break;
            }
            case 9, 10:
                due("undo()", x.undo(), m.undo());
                break;
            default: {
                int k = near(1);
                if (below(2) == 0) {
                    due("keep(" + k + ")", x.keep(k) ? 1 : 0, m.keep(k) ? 1 : 0);
                } else {
                    due("again(" + k + ")", x.again(k) ? 1 : 0, m.again(k) ? 1 : 0);
                }
            }
        }
    }

    private void askSmall() {
        int what = near(8);
        int rule = near(m.rules.size());
        int k = near(m.tokens.size());
        switch (below(9)) {
            case 0:
                due("count(" + what + ")", x.count(what), m.count(what));
                break;
            case 1:
                for (int w = -1; w < 4; w++) {
                    due("token(" + k + ", " + w + ")", x.token(k, w), m.token(k, w));
                }
                break;
            case 2:
                ruleCall(rule, near(2));
                break;
            case 3: {
                int alt = near(3);
                int item = near(4);
                int w = near(2);
                due("item(" + rule + ", " + alt + ", " + item + ", " + w + ")", x.item(rule, alt, item, w), m.item(rule, alt, item, w));
                break;
            }
            case 4:
                due("write()", x.write(), m.write());
                letters();
                break;
            case 5:
                due("print()", x.print(), m.print());
                letters();
                break;
            case 6:
                due("free(" + rule + ")", x.free(rule), m.free(rule));
                break;
            case 7: {
                int i = near(3);
                if (m.rules.size() < 5) {
                    due("first(" + rule + ", " + i + ")", x.first(rule, i), m.first(rule, i));
                }
                break;
            }
            default: {
                int i = near(m.tokens.size());
                int j = i + near(4);
                due("where(" + rule + ", " + i + ", " + j + ")", x.where(rule, i, j), m.where(rule, i, j));
            }
        }
    }

    private void letters() {
        for (int i = -1; i <= m.line.length(); i++) {
            if (x.letter(i) != m.letter(i)) {
                due("letter(" + i + ")", x.letter(i), m.letter(i));
            }
        }
        due("letter(0)", x.letter(0), m.letter(0));
    }

    private void ruleCall(int rule, int what) {
        long got;
        long want;
        try {
            got = x.rule(rule, what);
        } catch (NoSuchElementException e) {
            got = -777;
        }
        try {
            want = m.rule(rule, what);
        } catch (NoSuchElementException e) {
            want = -777;
        }
        due("rule(" + rule + ", " + what + ")", got, want);
    }

    private void askFits() {
        int n = m.tokens.size();
        boolean small = n <= 9;
        int what = near(1);
        switch (below(16)) {
            case 0, 1:
                due("fits()", x.fits(), m.fits());
                break;
            case 2:
                if (small) {
                    due("blame(" + what + ")", x.blame(what), m.blame(what));
                }
                break;
            case 3: {
                int at = near(n);
                if (small) {
                    due("goesOn(" + at + ")", x.goesOn(at), m.goesOn(at));
                }
                break;
            }
            case 4:
                if (n <= 5) {
                    due("hint(" + what + ")", x.hint(what), m.hint(what));
                }
                break;
            case 5: {
                int at = near(n);
                int sign = drawSign();
                if (at <= 4) {
                    due("next(" + at + ", " + sign + ")", x.next(at, sign), m.next(at, sign));
                }
                break;
            }
            case 6: {
                int at = near(n);
                if (at <= 3) {
                    due("room(" + at + ")", x.room(at), m.room(at));
                }
                break;
            }
            case 7:
                if (n <= 6) {
                    due("repair(" + what + ")", x.repair(what), m.repair(what));
                }
                break;
            case 8: {
                int k = near(1);
                due("alike(" + k + ")", x.alike(k), m.alike(k));
                break;
            }
            default:
                askTree();
        }
    }

    /** All that can be asked of the text and its tree. */
    private void askAll() {
        int n = m.tokens.size();
        int nodes = m.nodes();
        for (int rule = 0; rule < m.rules.size(); rule++) {
            for (int i = 0; i <= n; i++) {
                for (int j = i; j <= n; j++) {
                    due("where(" + rule + ", " + i + ", " + j + ")", x.where(rule, i, j), m.where(rule, i, j));
                }
            }
        }
        due("nodes()", x.nodes(), nodes);
        for (int k = 0; k < nodes; k++) {
            for (int w = 0; w < 7; w++) {
                due("node(" + k + ", " + w + ")", x.node(k, w), m.node(k, w));
                due("extent(" + k + ", " + w + ")", x.extent(k, w), m.extent(k, w));
            }
            due("ways(" + k + ")", x.ways(k), m.ways(k));
        }
        for (int token = 0; token < n; token++) {
            due("off(" + token + ")", x.off(token), m.off(token));
            for (int w = 0; w < 4; w++) {
                due("about(" + token + ", " + w + ")", x.about(token, w), m.about(token, w));
            }
        }
        for (int w = 0; w < 3; w++) {
            due("tree(" + w + ")", x.tree(w), m.tree(w));
        }
        for (int at = 0; at <= n && n <= 9; at++) {
            due("goesOn(" + at + ")", x.goesOn(at), m.goesOn(at));
        }
    }

    /** A LINE of a text that fits is moved, and what is wrong then is asked. */
    private void shake() {
        growSome();
        int n = m.tokens.size();
        if (n == 0 || n > 6 || m.fits() != 1) {
            return;
        }
        int keep = below(2);
        due("keep(" + keep + ")", x.keep(keep) ? 1 : 0, m.keep(keep) ? 1 : 0);
        int line = m.tokens.get(below(n)).line();
        int by = below(15) - 7;
        due("move(" + line + ", " + by + ")", x.move(line, by), m.move(line, by));
        for (int what = 0; what < 2; what++) {
            due("blame(" + what + ")", x.blame(what), m.blame(what));
            due("hint(" + what + ")", x.hint(what), m.hint(what));
            due("repair(" + what + ")", x.repair(what), m.repair(what));
        }
        due("alike(" + keep + ")", x.alike(keep), m.alike(keep));
    }

    private void askTree() {
        due("nodes()", x.nodes(), m.nodes());
        int k = near(Math.max(0, m.nodes()));
        int token = near(m.tokens.size());
        int what = near(3);
        switch (below(6)) {
            case 0:
                for (int w = -1; w < 8; w++) {
                    due("node(" + k + ", " + w + ")", x.node(k, w), m.node(k, w));
                }
                break;
            case 1:
                due("ways(" + k + ")", x.ways(k), m.ways(k));
                break;
            case 2:
                due("extent(" + k + ", " + (what + 1) + ")", x.extent(k, what + 1), m.extent(k, what + 1));
                break;
            case 3:
                due("off(" + token + ")", x.off(token), m.off(token));
                break;
            case 4:
                due("about(" + token + ", " + what + ")", x.about(token, what), m.about(token, what));
                break;
            default:
                due("tree(" + what + ")", x.tree(what), m.tree(what));
        }
    }
}
