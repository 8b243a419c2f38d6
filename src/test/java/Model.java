import java.util.ArrayDeque;
import java.util.ArrayList;
import java.util.HashSet;
import java.util.List;
import java.util.NoSuchElementException;
import java.util.Set;
import java.util.TreeSet;

/** The document's words as plainly as they can be followed, column by column and end by end: slow, but easy to believe. */
final class Model {
    record Item(char bond, char part, boolean name) { }

    record Rule(char name, int place, List<List<Item>> alts) { }

    record Node(int rule, int alt, int i, int j, int column, int above, int level, char bond) { }

    record Token(int sign, int line, int column) { }

    static final int COLUMNS = 40;

    StringBuilder text = new StringBuilder();
    List<Rule> rules = new ArrayList<>();
    List<Token> tokens = new ArrayList<>();
    ArrayDeque<List<Token>> undos = new ArrayDeque<>();
    String line = "";
    List<List<Rule>> keptRules = new ArrayList<>(List.of(new ArrayList<>(), new ArrayList<>()));
    List<List<Token>> keptTokens = new ArrayList<>();
    boolean[] held = new boolean[2];

    Model() {
        keptTokens.add(null);
        keptTokens.add(null);
    }

    // ---- THE TEXT

    int sign(int v) {
        if (text.length() > 236) {
            return -1;
        }
        text.append((char) (v >>> 24)).append((char) (v >> 16 & 255)).append((char) (v >> 8 & 255)).append((char) (v & 255));
        return text.length();
    }

    boolean end(int n) {
        if (n < 0 || n > text.length()) {
            return false;
        }
        text.setLength(n);
        return true;
    }

    int grammar() {
        String t = text.toString();
        text.setLength(0);
        List<Rule> read = new ArrayList<>();
        List<Integer> loose = new ArrayList<>();
        int fault = readGrammar(t, read, loose);
        for (int place : fault < 0 ? loose : List.<Integer>of()) {
            if (fault < 0 && read.stream().noneMatch(r -> r.name == t.charAt(place))) {
                fault = place;
            }
        }
        for (int r = 0; r < read.size() && fault < 0; r++) {
            if (comesTo(read, empties(read), r, r, new HashSet<>())) {
                fault = read.get(r).place;
            }
        }
        if (fault >= 0) {
            return -1000 - fault;
        }
        rules = read;
        return rules.size();
    }

    private static int readGrammar(String t, List<Rule> read, List<Integer> namesInAlts) {
        String state = "name";
        char bond = 0;
        for (int p = 0; p < t.length(); p++) {
            char s = t.charAt(p);
            if (s == ' ' && !state.equals("quoted")) {
                continue;
            }
            List<List<Item>> alts = read.isEmpty() ? null : read.get(read.size() - 1).alts;
            List<Item> alt = alts == null || alts.isEmpty() ? null : alts.get(alts.size() - 1);
            boolean isName = s >= 'A' && s <= 'Z';
            boolean isBond = "=>*".indexOf(s) >= 0;
            if (state.equals("name")) {
                if (!isName || read.size() == 8 || read.stream().anyMatch(r -> r.name == s)) {
                    return p;
                }
                read.add(new Rule(s, p, new ArrayList<>()));
                state = "colon";
            } else if (state.equals("colon")) {
                if (s != ':') {
                    return p;
                }
                alts.add(new ArrayList<>());
                state = "alt";
            } else if (state.equals("alt") && s == ';') {
                state = "name";
            } else if (state.equals("alt") && s == '/') {
                if (alts.size() == 4) {
                    return p;
                }
                alts.add(new ArrayList<>());
            } else if (state.equals("quoted")) {
                if (s < 33 || s > 126) {
                    return p;
                }
                alt.add(new Item(bond, s, false));
                bond = 0;
                state = "alt";
            } else {
                if (!isName && s != '\'' && !(isBond && state.equals("alt"))) {
                    return p;
                }
                if (alt.size() == 5) {
                    return p;
                }
                if (isBond) {
                    bond = s;
                    state = "bonded";
                } else if (s == '\'') {
                    state = "quoted";
                } else {
                    alt.add(new Item(bond, s, true));
                    namesInAlts.add(p);
                    bond = 0;
                    state = "alt";
                }
            }
        }
        return state.equals("alt") ? -1 : t.length();
    }

    static int ruleOf(List<Rule> rules, char name) {
        for (int r = 0; r < rules.size(); r++) {
            if (rules.get(r).name == name) {
                return r;
            }
        }
        return -1;
    }

    static Set<Character> empties(List<Rule> rules) {
        Set<Character> found = new HashSet<>();
        for (int pass = 0; pass < rules.size(); pass++) {
            for (Rule rule : rules) {
                if (rule.alts.stream().anyMatch(alt -> alt.stream().allMatch(i -> i.name && found.contains(i.part)))) {
                    found.add(rule.name);
                }
            }
        }
        return found;
    }

    private static boolean comesTo(List<Rule> rules, Set<Character> empties, int from, int to, Set<Integer> been) {
        for (List<Item> alt : rules.get(from).alts) {
            for (int k = 0; k < alt.size(); k++) {
                boolean others = alt.get(k).name;
                for (int o = 0; o < alt.size(); o++) {
                    others = others && (o == k || alt.get(o).name && empties.contains(alt.get(o).part));
                }
                if (others) {
                    int next = ruleOf(rules, alt.get(k).part);
                    if (next == to || been.add(next) && comesTo(rules, empties, next, to, been)) {
                        return true;
                    }
                }
            }
        }
        return false;
    }

    int text() {
        String t = text.toString();
        text.setLength(0);
        List<Token> read = new ArrayList<>();
        int row = 0;
        int begin = 0;
        for (int p = 0; p < t.length(); p++) {
            char s = t.charAt(p);
            if (s == 10) {
                row++;
                begin = p + 1;
            } else if (s != 32) {
                if (s < 33 || s > 126 || read.size() == 20 || p - begin > 39) {
                    return -1000 - p;
                }
                read.add(new Token(s, row, p - begin));
            }
        }
        tokens = read;
        undos.clear();
        return read.size();
    }

    // ---- grammars

    int rule(int rule, int what) {
        if (rule < 0 || rule >= rules.size()) {
            throw new NoSuchElementException();
        }
        Rule r = rules.get(rule);
        return what == 0 ? r.name : what == 1 ? r.alts.size() : what == 2 ? (empties(rules).contains(r.name) ? 1 : 0) : -1;
    }

    int item(int rule, int alt, int k, int what) {
        if (rule < 0 || rule >= rules.size() || alt < 0 || alt >= rules.get(rule).alts.size()) {
            return -1;
        }
        List<Item> items = rules.get(rule).alts.get(alt);
        if (k == -1 && what == 0) {
            return items.size();
        }
        if (k < 0 || k >= items.size() || what < 0 || what > 2) {
            return -1;
        }
        Item item = items.get(k);
        return what == 0 ? item.part : what == 1 ? (item.name ? 1 : 0) : item.bond;
    }

    int first(int rule, int i) {
        if (rule < 0 || rule >= rules.size()) {
            return -1;
        }
        List<Integer> found = new ArrayList<>(firsts(rule));
        return i == -1 ? found.size() : i < 0 || i >= found.size() ? -1 : found.get(i);
    }

    private Set<Integer> firsts(int rule) {
        Set<Integer> found = new TreeSet<>();
        for (int s : signs(rules)) {
            for (int d = 0; d < COLUMNS; d++) {
                Parse parse = new Parse(rules, List.of(new Token(s, 0, d)));
                for (int c = 0; c < COLUMNS && !found.contains(s); c++) {
                    if (parse.going(1)[rule][c][0]) {
                        found.add(s);
                    }
                }
            }
        }
        return found;
    }

    static Set<Integer> signs(List<Rule> rules) {
        Set<Integer> found = new TreeSet<>();
        for (Rule rule : rules) {
            for (List<Item> alt : rule.alts) {
                for (Item item : alt) {
                    if (!item.name) {
                        found.add((int) item.part);
                    }
                }
            }
        }
        return found;
    }

    int write() {
        if (rules.isEmpty()) {
            return -1;
        }
        List<String> written = new ArrayList<>();
        for (Rule rule : rules) {
            List<String> alts = new ArrayList<>();
            for (List<Item> alt : rule.alts) {
                StringBuilder b = new StringBuilder();
                for (Item item : alt) {
                    b.append(item.bond == 0 ? "" : "" + item.bond).append(item.name ? "" : "'").append(item.part);
                }
                alts.add(b.toString());
            }
            written.add(rule.name + ":" + String.join("/", alts));
        }
        line = String.join(";", written);
        return line.length();
    }

    long free(int rule) {
        if (rule < 0 || rule >= rules.size()) {
            return 0;
        }
        return bits(freeColumns(rules)[rule]);
    }

    static long bits(boolean[] columns) {
        long bits = 0;
        for (int c = 0; c < columns.length; c++) {
            bits |= columns[c] ? 1L << c : 0;
        }
        return bits;
    }

    static boolean fit(char bond, int c, int d) {
        return bond == '*' || bond == '=' && d == c || bond == '>' && d > c || bond == 0 && d >= c;
    }

    static boolean freeItem(List<Rule> rules, boolean[][] free, Item item, int c) {
        for (int d = 0; d < COLUMNS; d++) {
            if (fit(item.bond, c, d) && (!item.name || free[ruleOf(rules, item.part)][d])) {
                return true;
            }
        }
        return false;
    }

    static boolean freeItems(List<Rule> rules, boolean[][] free, List<Item> items, int c) {
        for (Item item : items) {
            if (!freeItem(rules, free, item, c)) {
                return false;
            }
        }
        return true;
    }

    static boolean[][] freeColumns(List<Rule> rules) {
        boolean[][] free = new boolean[rules.size()][COLUMNS];
        for (boolean more = true; more;) {
            more = false;
            for (int r = 0; r < rules.size(); r++) {
                for (int c = 0; c < COLUMNS; c++) {
                    for (List<Item> alt : rules.get(r).alts) {
                        if (!free[r][c] && freeItems(rules, free, alt, c)) {
                            free[r][c] = true;
                            more = true;
                        }
                    }
                }
            }
        }
        return free;
    }

    // ---- what fits

    /** All NODES that there are over the TOKENS of a text. */
    static final class Parse {
        final List<Rule> rules;
        final List<Token> tokens;
        final boolean[][][][] can;
        final boolean[][] free;

        Parse(List<Rule> rules, List<Token> tokens) {
            this.rules = rules;
            this.tokens = tokens;
            int n = tokens.size();
            free = freeColumns(rules);
            can = new boolean[rules.size()][COLUMNS][n + 1][n + 1];
            for (int length = 0; length <= n; length++) {
                for (int i = 0; i + length <= n; i++) {
                    for (boolean more = true; more;) {
                        more = settle(i, i + length);
                    }
                }
            }
        }

        private boolean settle(int i, int j) {
            boolean more = false;
            for (int r = 0; r < rules.size(); r++) {
                for (int c = 0; c < COLUMNS; c++) {
                    for (List<Item> alt : rules.get(r).alts) {
                        if (!can[r][c][i][j] && ends(alt, 0, c, i, j, null, new int[6]) > 0) {
                            can[r][c][i][j] = true;
                            more = true;
                        }
                    }
                }
            }
            return more;
        }

        boolean itemAt(Item item, int d, int p, int q) {
            if (item.name) {
                return can[ruleOf(rules, item.part)][d][p][q];
            }
            return q == p + 1 && tokens.get(p).sign == item.part && tokens.get(p).column == d;
        }

        int leastColumn(Item item, int c, int p, int q) {
            for (int d = 0; d < COLUMNS; d++) {
                if (fit(item.bond, c, d) && itemAt(item, d, p, q)) {
                    return d;
                }
            }
            return -1;
        }

        /** Goes through ends from the least on; with a list it gathers all of them, else it stops at the first. */
        int ends(List<Item> alt, int k, int c, int p, int j, List<int[]> all, int[] so) {
            so[k] = p;
            if (k == alt.size()) {
                if (p != j) {
                    return 0;
                }
                if (all != null) {
                    all.add(so.clone());
                }
                return 1;
            }
            int found = 0;
            for (int q = p; q <= j && (all != null || found == 0); q++) {
                if (leastColumn(alt.get(k), c, p, q) >= 0) {
                    found += ends(alt, k + 1, c, q, j, all, so);
                }
            }
            return found;
        }

        boolean fits() {
            return leastStart() >= 0;
        }

        int leastStart() {
            for (int c = 0; c < COLUMNS && !rules.isEmpty(); c++) {
                if (can[0][c][0][tokens.size()]) {
                    return c;
                }
            }
            return -1;
        }

        /** NODES of each RULE at each COLUMN from each TOKEN up to m, and any behind. */
        boolean[][][] going(int m) {
            boolean[][][] going = new boolean[rules.size()][COLUMNS][m + 1];
            for (int r = 0; r < rules.size(); r++) {
                for (int c = 0; c < COLUMNS; c++) {
                    going[r][c][m] = free[r][c];
                    for (int i = 0; i < m; i++) {
                        going[r][c][i] = can[r][c][i][m];
                    }
                }
            }
            for (boolean more = true; more;) {
                more = false;
                for (int r = 0; r < rules.size(); r++) {
                    for (int c = 0; c < COLUMNS; c++) {
                        for (int i = m - 1; i >= 0; i--) {
                            for (List<Item> alt : rules.get(r).alts) {
                                if (!going[r][c][i] && goesBy(alt, c, i, m, going)) {
                                    going[r][c][i] = true;
                                    more = true;
                                }
                            }
                        }
                    }
                }
            }
            return going;
        }

        private boolean goesBy(List<Item> alt, int c, int i, int m, boolean[][][] going) {
            for (int k = 0; k < alt.size(); k++) {
                if (!freeItems(rules, free, alt.subList(k + 1, alt.size()), c)) {
                    continue;
                }
                for (int p = i; p <= m; p++) {
                    if (itemGoes(alt.get(k), c, p, m, going) && ends(alt.subList(0, k), 0, c, i, p, null, new int[6]) > 0) {
                        return true;
                    }
                }
            }
            return false;
        }

        private boolean itemGoes(Item item, int c, int p, int m, boolean[][][] going) {
            for (int d = 0; d < COLUMNS; d++) {
                if (fit(item.bond, c, d)) {
                    boolean goes = item.name ? going[ruleOf(rules, item.part)][d][p]
                        : p == m || p == m - 1 && itemAt(item, d, p, m);
                    if (goes) {
                        return true;
                    }
                }
            }
            return false;
        }

        boolean goesOn(int m) {
            boolean[][][] going = going(m);
            for (int c = 0; c < COLUMNS; c++) {
                if (going[0][c][0]) {
                    return true;
                }
            }
            return false;
        }

        List<Node> tree() {
            List<Node> nodes = new ArrayList<>();
            if (!tokens.isEmpty()) {
                grow(nodes, 0, leastStart(), 0, tokens.size(), -1, 0, (char) 0);
            }
            return nodes;
        }

        private void grow(List<Node> nodes, int r, int c, int i, int j, int above, int level, char bond) {
            List<List<Item>> alts = rules.get(r).alts;
            for (int a = 0; a < alts.size(); a++) {
                int[] ends = new int[6];
                if (ends(alts.get(a), 0, c, i, j, null, ends) > 0) {
                    int me = nodes.size();
                    nodes.add(new Node(r, a, i, j, c, above, level, bond));
                    for (int k = 0; k < alts.get(a).size(); k++) {
                        Item item = alts.get(a).get(k);
                        if (item.name && ends[k] < ends[k + 1]) {
                            int d = leastColumn(item, c, ends[k], ends[k + 1]);
                            grow(nodes, ruleOf(rules, item.part), d, ends[k], ends[k + 1], me, level + 1, item.bond);
                        }
                    }
                    return;
                }
            }
            throw new IllegalStateException("no ALT");
        }
    }

    private Parse parse;

    Parse parse() {
        if (parse == null || parse.rules != rules || !parse.tokens.equals(tokens)) {
            parse = new Parse(rules, new ArrayList<>(tokens));
        }
        return parse;
    }

    int token(int k, int what) {
        if (k < 0 || k >= tokens.size()) {
            return -1;
        }
        Token t = tokens.get(k);
        return what == 0 ? t.sign : what == 1 ? t.line : what == 2 ? t.column : -1;
    }

    long where(int rule, int i, int j) {
        if (rule < 0 || rule >= rules.size() || i < 0 || j < i || j > tokens.size()) {
            return 0;
        }
        long bits = 0;
        for (int c = 0; c < COLUMNS; c++) {
            bits |= parse().can[rule][c][i][j] ? 1L << c : 0;
        }
        return bits;
    }

    int fits() {
        return rules.isEmpty() ? -1 : parse().fits() ? 1 : 0;
    }

    private int blamed() {
        for (int k = 0; k < tokens.size(); k++) {
            if (!parse().goesOn(k + 1)) {
                return k;
            }
        }
        return tokens.size();
    }

    int blame(int what) {
        if (fits() != 0 || what < 0 || what > 1) {
            return -1;
        }
        int token = blamed();
        if (what == 0) {
            return token;
        }
        return tokens.isEmpty() ? 0 : tokens.get(Math.min(token, tokens.size() - 1)).line;
    }

    int goesOn(int m) {
        return rules.isEmpty() || m < 0 || m > tokens.size() ? -1 : parse().goesOn(m) ? 1 : 0;
    }

    int hint(int what) {
        if (fits() != 0 || what < 0 || what > 1 || blamed() == tokens.size()) {
            return -1;
        }
        Token t = tokens.get(blamed());
        long columns = next(blamed(), t.sign);
        if (what == 1) {
            return Long.bitCount(columns);
        }
        int best = -1;
        for (int d = 0; d < COLUMNS; d++) {
            if ((columns >> d & 1) == 1 && (best < 0 || Math.abs(d - t.column) < Math.abs(best - t.column))) {
                best = d;
            }
        }
        return best;
    }

    long next(int m, int sign) {
        if (rules.isEmpty() || m < 0 || m > tokens.size() || sign < 33 || sign > 126) {
            return 0;
        }
        long bits = 0;
        for (int d = 0; d < COLUMNS; d++) {
            List<Token> longer = new ArrayList<>(tokens.subList(0, m));
            longer.add(new Token(sign, 1000, d));
            bits |= new Parse(rules, longer).goesOn(m + 1) ? 1L << d : 0;
        }
        return bits;
    }

    int room(int m) {
        if (rules.isEmpty() || m < 0 || m > tokens.size()) {
            return -1;
        }
        long bits = 0;
        for (int s : signs(rules)) {
            bits |= next(m, s);
        }
        return Long.bitCount(bits);
    }

    // ---- the tree

    private List<Node> treeNow() {
        return fits() == 1 ? parse().tree() : null;
    }

    private Node nodeNow(int k) {
        List<Node> nodes = treeNow();
        return nodes == null || k < 0 || k >= nodes.size() ? null : nodes.get(k);
    }

    int nodes() {
        return treeNow() == null ? -1 : treeNow().size();
    }

    int node(int k, int what) {
        Node n = nodeNow(k);
        if (n == null || what < 0 || what > 6) {
            return -1;
        }
        return new int[] {n.rule, n.alt, n.i, n.j, n.column, n.above, n.level}[what];
    }

    int ways(int k) {
        Node n = nodeNow(k);
        if (n == null) {
            return -1;
        }
        List<int[]> all = new ArrayList<>();
        for (List<Item> alt : rules.get(n.rule).alts) {
            parse().ends(alt, 0, n.column, n.i, n.j, all, new int[6]);
        }
        return all.size();
    }

    int extent(int k, int what) {
        Node n = nodeNow(k);
        if (n == null || what < 0 || what > 4) {
            return -1;
        }
        List<Token> of = tokens.subList(n.i, n.j);
        return switch (what) {
            case 0 -> of.stream().mapToInt(t -> t.line).min().getAsInt();
            case 1 -> of.stream().mapToInt(t -> t.line).max().getAsInt();
            case 2 -> of.stream().mapToInt(t -> t.column).min().getAsInt();
            case 3 -> of.stream().mapToInt(t -> t.column).max().getAsInt();
            default -> (int) of.stream().filter(t -> t.column < n.column).count();
        };
    }

    int off(int token) {
        List<Node> nodes = treeNow();
        if (nodes == null || token < 0 || token >= tokens.size()) {
            return -1;
        }
        return (int) nodes.stream().filter(n -> n.i <= token && token < n.j && n.bond == '*').count();
    }

    int about(int token, int what) {
        List<Node> nodes = treeNow();
        if (nodes == null || token < 0 || token >= tokens.size() || what < 0 || what > 3) {
            return -1;
        }
        List<Node> have = nodes.stream().filter(n -> n.i <= token && token < n.j).toList();
        return switch (what) {
            case 0 -> (int) have.stream().filter(n -> n.i == token).count();
            case 1 -> (int) have.stream().filter(n -> n.j == token + 1).count();
            case 2 -> have.size();
            default -> have.stream().max((a, b) -> a.level - b.level).get().rule;
        };
    }

    int tree(int what) {
        List<Node> nodes = treeNow();
        if (nodes == null || what < 0 || what > 2) {
            return -1;
        }
        if (what == 0) {
            return nodes.stream().mapToInt(n -> n.level + 1).max().orElse(0);
        }
        if (what == 1) {
            return (int) nodes.stream().filter(n -> n.column != tokens.get(n.i).column).count();
        }
        int found = 0;
        for (int k = 0; k < tokens.size(); k++) {
            int at = k;
            boolean begins = k == 0 || tokens.get(k).line != tokens.get(k - 1).line;
            found += begins && nodes.stream().filter(n -> n.i == at).count() >= 2 ? 1 : 0;
        }
        return found;
    }

    // ---- lines

    private int act(List<Token> now, int answer) {
        undos.addLast(tokens);
        if (undos.size() > 10) {
            undos.removeFirst();
        }
        tokens = now;
        return answer;
    }

    private static List<Token> moved(List<Token> tokens, int line, int by) {
        List<Token> now = new ArrayList<>();
        for (Token t : tokens) {
            int column = t.line == line ? t.column + by : t.column;
            if (column < 0 || column > 39) {
                return null;
            }
            now.add(new Token(t.sign, t.line, column));
        }
        return now;
    }

    int move(int line, int by) {
        if (by < -39 || by > 39) {
            return -1;
        }
        int many = (int) tokens.stream().filter(t -> t.line == line).count();
        if (many == 0) {
            return -2;
        }
        List<Token> now = moved(tokens, line, by);
        return now == null ? -3 : act(now, many);
    }

    int put(int line, int column, int sign) {
        int last = tokens.stream().mapToInt(t -> t.line).max().orElse(-1);
        if (line < 0 || line > last + 1 || column < 0 || column > 39 || sign < 33 || sign > 126) {
            return -1;
        }
        if (tokens.size() == 20 || tokens.stream().anyMatch(t -> t.line == line && t.column == column)) {
            return -3;
        }
        List<Token> now = new ArrayList<>(tokens);
        Token put = new Token(sign, line, column);
        now.add(put);
        now.sort((a, b) -> a.line != b.line ? a.line - b.line : a.column - b.column);
        return act(now, now.indexOf(put));
    }

    int take(int token) {
        if (token < 0 || token >= tokens.size()) {
            return -2;
        }
        List<Token> now = new ArrayList<>(tokens);
        now.remove(token);
        return act(now, now.size());
    }

    int change(int token, int sign) {
        if (sign < 33 || sign > 126) {
            return -1;
        }
        if (token < 0 || token >= tokens.size()) {
            return -2;
        }
        Token t = tokens.get(token);
        if (t.sign == sign) {
            return -3;
        }
        List<Token> now = new ArrayList<>(tokens);
        now.set(token, new Token(sign, t.line, t.column));
        return act(now, t.sign);
    }

    int part(int token, int column) {
        if (column < 0 || column > 39) {
            return -1;
        }
        if (token < 0 || token >= tokens.size()) {
            return -2;
        }
        Token at = tokens.get(token);
        if (token == 0 || tokens.get(token - 1).line != at.line) {
            return -3;
        }
        List<Token> now = new ArrayList<>();
        for (int k = 0; k < tokens.size(); k++) {
            Token t = tokens.get(k);
            int c = k >= token && t.line == at.line ? t.column - at.column + column : t.column;
            if (c > 39) {
                return -3;
            }
            now.add(new Token(t.sign, k >= token ? t.line + 1 : t.line, c));
        }
        return act(now, at.line + 1);
    }

    private long drawn;
    private List<Token> grown;

    int grow(int seed) {
        if (seed < 0 || seed > 999_999) {
            return -1;
        }
        if (rules.isEmpty() || free(0) == 0) {
            return -3;
        }
        drawn = seed;
        grown = new ArrayList<>();
        boolean[][] free = freeColumns(rules);
        List<Integer> columns = new ArrayList<>();
        for (int c = 0; c < COLUMNS; c++) {
            if (free[0][c]) {
                columns.add(c);
            }
        }
        return growNode(free, 0, draw(columns), 0) ? act(grown, grown.size()) : -3;
    }

    private <T> T draw(List<T> of) {
        drawn = (1103 * drawn + 12345) % 1_000_003;
        return of.get((int) (drawn % of.size()));
    }

    private boolean growNode(boolean[][] free, int rule, int c, int above) {
        if (above > 30) {
            return false;
        }
        List<List<Item>> can = new ArrayList<>();
        for (List<Item> alt : rules.get(rule).alts) {
            if (freeItems(rules, free, alt, c)) {
                can.add(alt);
            }
        }
        for (Item item : draw(can)) {
            List<Integer> columns = new ArrayList<>();
            for (int d = 0; d < COLUMNS; d++) {
                if (fit(item.bond, c, d) && (!item.name || free[ruleOf(rules, item.part)][d])) {
                    columns.add(d);
                }
            }
            int d = draw(columns);
            if (item.name) {
                if (!growNode(free, ruleOf(rules, item.part), d, above + 1)) {
                    return false;
                }
            } else {
                if (grown.size() == 20) {
                    return false;
                }
                Token last = grown.isEmpty() ? null : grown.get(grown.size() - 1);
                grown.add(new Token(item.part, last == null ? 0 : last.column < d ? last.line : last.line + 1, d));
            }
        }
        return true;
    }

    int undo() {
        if (undos.isEmpty()) {
            return -3;
        }
        tokens = undos.removeLast();
        return undos.size();
    }

    int repair(int what) {
        if (fits() != 0 || what < 0 || what > 1) {
            return -1;
        }
        int bestLine = -1;
        int best = 0;
        for (int l : new TreeSet<>(tokens.stream().map(t -> t.line).toList())) {
            for (int by = -6; by <= 6; by++) {
                List<Token> now = by == 0 ? null : moved(tokens, l, by);
                boolean better = best == 0 || Math.abs(by) < Math.abs(best);
                if (now != null && better && new Parse(rules, now).fits()) {
                    best = by;
                    bestLine = l;
                }
            }
        }
        return best == 0 ? -1 : what == 0 ? bestLine : best + 100;
    }

    int print() {
        StringBuilder b = new StringBuilder();
        int begin = 0;
        for (int k = 0; k < tokens.size(); k++) {
            if (k > 0 && tokens.get(k).line != tokens.get(k - 1).line) {
                b.append('\n');
                begin = b.length();
            }
            b.append(" ".repeat(tokens.get(k).column - (b.length() - begin))).append((char) tokens.get(k).sign);
        }
        line = b.toString();
        return line.length();
    }

    int letter(int i) {
        return i < 0 || i >= line.length() ? -1 : line.charAt(i);
    }

    boolean keep(int k) {
        if (k < 0 || k > 1) {
            return false;
        }
        keptRules.set(k, rules);
        keptTokens.set(k, tokens);
        held[k] = true;
        return true;
    }

    boolean again(int k) {
        if (k < 0 || k > 1 || !held[k]) {
            return false;
        }
        rules = keptRules.get(k);
        tokens = keptTokens.get(k);
        undos.clear();
        return true;
    }

    int alike(int k) {
        if (k < 0 || k > 1 || !held[k] || fits() != 1) {
            return -1;
        }
        Parse other = new Parse(keptRules.get(k), keptTokens.get(k));
        if (!other.fits()) {
            return -1;
        }
        return shape(parse()).equals(shape(other)) ? 1 : 0;
    }

    private static List<String> shape(Parse parse) {
        return parse.tree().stream().map(n -> parse.rules.get(n.rule).name + " " + n.alt + " " + n.i + " " + n.j).toList();
    }

    int count(int what) {
        return switch (what) {
            case 0 -> rules.size();
            case 1 -> tokens.size();
            case 2 -> new HashSet<>(tokens.stream().map(t -> t.line).toList()).size();
            case 3 -> text.length();
            case 4 -> line.length();
            case 5 -> undos.size();
            case 6 -> tokens.stream().mapToInt(t -> t.column).max().orElse(-1);
            case 7 -> tokens.stream().mapToInt(t -> t.column).min().orElse(-1);
            default -> -1;
        };
    }
}
