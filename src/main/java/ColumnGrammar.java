import java.util.Arrays;
import java.util.NoSuchElementException;

/** Grammars and texts whose columns count; README.md tells how it is used. */
public final class ColumnGrammar {
    public static final int NONE = -1;

    private static final int COLUMNS = 40;
    private static final long ALL = (1L << COLUMNS) - 1;
    private static final int MOST_TEXT = 240;
    private static final int MOST_RULES = 8;
    private static final int MOST_ALTS = 4;
    private static final int MOST_ITEMS = 5;
    private static final int SLOTS = MOST_RULES * MOST_ALTS * MOST_ITEMS;
    private static final int MOST_TOKENS = 20;
    private static final int PLACES = MOST_TOKENS + 1;
    // 20 lines of 40 signs each, with a line's end between them.
    private static final int MOST_LETTERS = MOST_TOKENS * (COLUMNS + 1);
    // 39 spans can lie within one another over 20 tokens; no RULE comes twice over the same span, as there is no ROUND.
    private static final int MOST_NODES = (2 * MOST_TOKENS) * MOST_RULES;
    // A pass that goes on adds a column to a RULE at least.
    private static final int MOST_PASSES = MOST_RULES * COLUMNS + 1;
    private static final int MOST_ACTS = 10;
    private static final int MOST_ABOVE = 30;
    private static final int FARTHEST_REPAIR = 6;

    private static final int START = 0;
    private static final int ANY = 0;
    private static final int UNKNOWN = -2;
    private static final int LEAST_SIGN = 33;
    private static final int GREATEST_SIGN = 126;
    private static final int BLANK = 32;
    private static final int LINE_END = 10;

    private static final int FAULTS = -1000;
    private static final int NO_NUMBER = -1;
    private static final int NO_SUCH = -2;
    private static final int NOT_NOW = -3;

    // What a row of a tree holds, as node() numbers it; the BOND behind that.
    private static final int RULE = 0;
    private static final int ALT = 1;
    private static final int FROM = 2;
    private static final int TO = 3;
    private static final int COLUMN = 4;
    private static final int ABOVE = 5;
    private static final int LEVEL = 6;
    private static final int BOND = 7;
    private static final int ROW = 8;

    private final int[] text = new int[MOST_TEXT];
    private int textLength;
    private final GrammarReader reader = new GrammarReader();
    private final Rules rules = new Rules();
    private final Tokens tokens = new Tokens();
    private final Tokens before = new Tokens();
    private final Chart chart = new Chart(rules, tokens);
    private final Tree tree = new Tree(chart);
    private final Outlook outlook = new Outlook(chart);
    private final Grower grower = new Grower(rules);
    private final History history = new History();
    private final Letters theLine = new Letters();
    private final Kept[] kept = {new Kept(), new Kept()};
    private final Chart otherChart = new Chart(rules, before);
    private final Tree otherTree = new Tree(otherChart);
    private final Repairs repairs = new Repairs();
    private boolean treeStands;
    private int blamed = UNKNOWN;

    public ColumnGrammar() {
    }

    public int sign(int v) {
        if (textLength + 4 > MOST_TEXT) {
            return NONE;
        }
        for (int shift = 24; shift >= 0; shift -= 8) {
            text[textLength] = v >>> shift & 255;
            textLength++;
        }
        return textLength;
    }

    public boolean end(int n) {
        if (n < 0 || n > textLength) {
            return false;
        }
        textLength = n;
        return true;
    }

    public int grammar() {
        int fault = reader.readGrammar(text, textLength);
        textLength = 0;
        if (fault != NONE) {
            return FAULTS - fault;
        }
        rules.copyFrom(reader.found);
        changed();
        return rules.count;
    }

    public int text() {
        int fault = before.readText(text, textLength);
        textLength = 0;
        if (fault != NONE) {
            return FAULTS - fault;
        }
        tokens.copyFrom(before);
        history.forget();
        changed();
        return tokens.count;
    }

    // ---- grammars

    public int rule(int rule, int what) throws NoSuchElementException {
        if (!isRule(rule)) {
            throw new NoSuchElementException();
        }
        switch (what) {
            case 0:
                return rules.names[rule];
            case 1:
                return rules.alts[rule];
            case 2:
                return rules.canBeEmpty(rule) ? 1 : 0;
            default:
                return NONE;
        }
    }

    public int item(int rule, int alt, int k, int what) {
        if (!isRule(rule) || alt < 0 || alt >= rules.alts[rule]) {
            return NONE;
        }
        int items = rules.items[rule * MOST_ALTS + alt];
        if (k == NONE) {
            return what == 0 ? items : NONE;
        }
        if (k < 0 || k >= items) {
            return NONE;
        }
        int slot = (rule * MOST_ALTS + alt) * MOST_ITEMS + k;
        switch (what) {
            case 0:
                return rules.parts[slot];
            case 1:
                return rules.targets[slot] == NONE ? 0 : 1;
            case 2:
                return rules.bonds[slot];
            default:
                return NONE;
        }
    }

    public int first(int rule, int i) {
        if (!isRule(rule) || i < NONE) {
            return NONE;
        }
        chart.readOnce();
        int found = 0;
        for (int sign = LEAST_SIGN; sign <= GREATEST_SIGN; sign++) {
            if (rules.hasSign(sign) && outlook.columnsBehind(0, sign, rule) != 0) {
                if (found == i) {
                    return sign;
                }
                found++;
            }
        }
        return i == NONE ? found : NONE;
    }

    public int write() {
        if (rules.count == 0) {
            return NONE;
        }
        theLine.writeRules(rules);
        return theLine.length;
    }

    public long free(int rule) {
        return isRule(rule) ? rules.free[rule] : 0;
    }

    // ---- what fits

    public int token(int k, int what) {
        if (!isToken(k)) {
            return NONE;
        }
        switch (what) {
            case 0:
                return tokens.signs[k];
            case 1:
                return tokens.lines[k];
            case 2:
                return tokens.columns[k];
            default:
                return NONE;
        }
    }

    public long where(int rule, int i, int j) {
        if (!isRule(rule) || i < 0 || i > j || j > tokens.count) {
            return 0;
        }
        chart.readOnce();
        return chart.columnsOver(rule, i, j);
    }

    public int fits() {
        if (rules.count == 0) {
            return NONE;
        }
        return chart.readOnce() ? 1 : 0;
    }

    public int blame(int what) {
        if (what < 0 || what > 1 || rules.count == 0 || chart.readOnce()) {
            return NONE;
        }
        int token = blamedToken();
        if (what == 0) {
            return token;
        }
        if (token < tokens.count) {
            return tokens.lines[token];
        }
        return tokens.count == 0 ? 0 : tokens.lines[tokens.count - 1];
    }

    public int goesOn(int m) {
        if (rules.count == 0 || m < 0 || m > tokens.count) {
            return NONE;
        }
        if (m == 0) {
            return rules.free[START] != 0 ? 1 : 0;
        }
        chart.readOnce();
        return goesOnWith(m - 1) ? 1 : 0;
    }

    public int hint(int what) {
        if (what < 0 || what > 1 || rules.count == 0 || chart.readOnce()) {
            return NONE;
        }
        int token = blamedToken();
        if (token >= tokens.count) {
            return NONE;
        }
        long columns = outlook.columnsBehind(token, tokens.signs[token], START);
        return what == 0 ? nearest(columns, tokens.columns[token]) : Long.bitCount(columns);
    }

    public long next(int m, int sign) {
        if (rules.count == 0 || m < 0 || m > tokens.count || !isSign(sign)) {
            return 0;
        }
        chart.readOnce();
        return outlook.columnsBehind(m, sign, START);
    }

    public int room(int m) {
        if (rules.count == 0 || m < 0 || m > tokens.count) {
            return NONE;
        }
        chart.readOnce();
        return Long.bitCount(outlook.columnsBehind(m, ANY, START));
    }

    // ---- the tree

    public int nodes() {
        return hasTree() ? tree.size : NONE;
    }

    public int node(int k, int what) {
        if (what < 0 || what > LEVEL || !hasTree() || !tree.isNode(k)) {
            return NONE;
        }
        return tree.field(k, what);
    }

    public int ways(int k) {
        return hasTree() && tree.isNode(k) ? tree.waysOf(k) : NONE;
    }

    public int extent(int k, int what) {
        if (!hasTree() || !tree.isNode(k)) {
            return NONE;
        }
        int from = tree.field(k, FROM);
        int to = tree.field(k, TO);
        switch (what) {
            case 0:
                return tokens.lines[from];
            case 1:
                return tokens.lines[to - 1];
            case 2:
                return tokens.leastColumn(from, to);
            case 3:
                return tokens.greatestColumn(from, to);
            case 4:
                return tokens.howManyAheadOf(tree.field(k, COLUMN), from, to);
            default:
                return NONE;
        }
    }

    public int off(int token) {
        if (!isToken(token) || !hasTree()) {
            return NONE;
        }
        int found = 0;
        for (int k = 0; k < tree.size; k++) {
            if (tree.has(k, token) && tree.field(k, BOND) == '*') {
                found++;
            }
        }
        return found;
    }

    public int about(int token, int what) {
        if (!isToken(token) || !hasTree()) {
            return NONE;
        }
        switch (what) {
            case 0:
                return tree.howManyWith(FROM, token);
            case 1:
                return tree.howManyWith(TO, token + 1);
            case 2:
                return tree.howManyHave(token);
            case 3:
                return tree.lowestRule(token);
            default:
                return NONE;
        }
    }

    public int tree(int what) {
        if (!hasTree()) {
            return NONE;
        }
        switch (what) {
            case 0:
                return tree.depth();
            case 1:
                return tree.howManyAside(tokens);
            case 2:
                return linesThatBeginTwo();
            default:
                return NONE;
        }
    }

    // ---- lines

    public int move(int line, int by) {
        before.copyFrom(tokens);
        return acted(tokens.moveLine(line, by));
    }

    public int put(int line, int column, int sign) {
        before.copyFrom(tokens);
        return acted(tokens.putSign(line, column, sign));
    }

    public int take(int token) {
        before.copyFrom(tokens);
        return acted(tokens.takeToken(token));
    }

    public int change(int token, int sign) {
        before.copyFrom(tokens);
        return acted(tokens.changeToken(token, sign));
    }

    public int part(int token, int column) {
        before.copyFrom(tokens);
        return acted(tokens.partLine(token, column));
    }

    public int grow(int seed) {
        if (seed < 0 || seed > 999999) {
            return NO_NUMBER;
        }
        if (!grower.growFrom(seed)) {
            return NOT_NOW;
        }
        before.copyFrom(tokens);
        tokens.copyFrom(grower.grown);
        return acted(tokens.count);
    }

    public int undo() {
        if (history.size == 0) {
            return NOT_NOW;
        }
        history.takeBack(tokens);
        changed();
        return history.size;
    }

    public int repair(int what) {
        if (what < 0 || what > 1 || rules.count == 0 || chart.readOnce()) {
            return NONE;
        }
        if (!repairs.known) {
            repairs.search(otherChart, rules, tokens);
        }
        if (repairs.by == 0) {
            return NONE;
        }
        return what == 0 ? repairs.line : repairs.by + 100;
    }

    public int print() {
        theLine.printTokens(tokens);
        return theLine.length;
    }

    public int letter(int i) {
        return i < 0 || i >= theLine.length ? NONE : theLine.letters[i];
    }

    public boolean keep(int k) {
        if (k < 0 || k >= kept.length) {
            return false;
        }
        kept[k].hold(rules, tokens);
        return true;
    }

    public boolean again(int k) {
        if (!isKept(k)) {
            return false;
        }
        rules.copyFrom(kept[k].rules);
        tokens.copyFrom(kept[k].tokens);
        history.forget();
        changed();
        return true;
    }

    public int alike(int k) {
        if (!isKept(k) || !hasTree()) {
            return NONE;
        }
        otherChart.turnTo(kept[k].rules, kept[k].tokens);
        if (!otherChart.readOnce()) {
            return NONE;
        }
        otherTree.build();
        return tree.isLike(otherTree) ? 1 : 0;
    }

    public int count(int what) {
        switch (what) {
            case 0:
                return rules.count;
            case 1:
                return tokens.count;
            case 2:
                return tokens.howManyLines();
            case 3:
                return textLength;
            case 4:
                return theLine.length;
            case 5:
                return history.size;
            case 6:
                return tokens.greatestColumn(0, tokens.count);
            case 7:
                return tokens.leastColumn(0, tokens.count);
            default:
                return NONE;
        }
    }

    // ---- what the calls share

    private boolean isRule(int rule) {
        return rule >= 0 && rule < rules.count;
    }

    private boolean isToken(int k) {
        return k >= 0 && k < tokens.count;
    }

    private boolean isKept(int k) {
        return k >= 0 && k < kept.length && kept[k].holds;
    }

    private void changed() {
        chart.stands = false;
        treeStands = false;
        repairs.known = false;
        blamed = UNKNOWN;
    }

    private int acted(int answer) {
        if (answer >= 0) {
            history.remember(before);
            changed();
        }
        return answer;
    }

    private boolean hasTree() {
        if (!chart.readOnce()) {
            return false;
        }
        if (!treeStands) {
            tree.build();
            treeStands = true;
        }
        return true;
    }

    private boolean goesOnWith(int token) {
        return hasColumn(outlook.columnsBehind(token, tokens.signs[token], START), tokens.columns[token]);
    }

    private int blamedToken() {
        if (blamed == UNKNOWN) {
            int token = 0;
            while (token < tokens.count && goesOnWith(token)) {
                token++;
            }
            blamed = token;
        }
        return blamed;
    }

    private static int nearest(long columns, int column) {
        for (int far = 0; far < COLUMNS; far++) {
            if (column >= far && hasColumn(columns, column - far)) {
                return column - far;
            }
            if (column + far < COLUMNS && hasColumn(columns, column + far)) {
                return column + far;
            }
        }
        return NONE;
    }

    private int linesThatBeginTwo() {
        int found = 0;
        for (int token = 0; token < tokens.count; token++) {
            if (tokens.beginsLine(token) && tree.howManyWith(FROM, token) >= 2) {
                found++;
            }
        }
        return found;
    }

    private static boolean isSign(int sign) {
        return sign >= LEAST_SIGN && sign <= GREATEST_SIGN;
    }

    private static boolean isColumn(int column) {
        return column >= 0 && column < COLUMNS;
    }

    private static boolean hasColumn(long columns, int column) {
        return (columns >>> column & 1) != 0;
    }

    private static int leastOf(long columns) {
        return Long.bitCount((columns & -columns) - 1);
    }

    /** The columns of wholes to which a part fits that stands at one of these. */
    private static long wholesOf(int bond, long columns) {
        if (columns == 0 || bond == '=') {
            return columns;
        }
        if (bond == '*') {
            return ALL;
        }
        long upTo = columns | columns >>> 1;
        upTo |= upTo >>> 2;
        upTo |= upTo >>> 4;
        upTo |= upTo >>> 8;
        upTo |= upTo >>> 16;
        upTo |= upTo >>> 32;
        return bond == '>' ? upTo >>> 1 : upTo;
    }

    /** The columns at which a part fits a whole that stands at one of these. */
    private static long partsOf(int bond, long columns) {
        if (columns == 0 || bond == '=') {
            return columns;
        }
        if (bond == '*') {
            return ALL;
        }
        long least = columns & -columns;
        return ALL & (bond == '>' ? -(least + least) : -least);
    }

    /** The RULES of a GRAMMAR, none of them while there is no GRAMMAR; ALTS and ITEMS stand in rows of fixed width. */
    private static final class Rules {
        int count;
        final int[] names = new int[MOST_RULES];
        final int[] alts = new int[MOST_RULES];
        final int[] items = new int[MOST_RULES * MOST_ALTS];
        final int[] parts = new int[SLOTS];
        // The RULE of a part that is a NAME, NONE of a SIGN.
        final int[] targets = new int[SLOTS];
        final int[] bonds = new int[SLOTS];
        int empties;
        final long[] free = new long[MOST_RULES];
        final long[] altFree = new long[MOST_RULES * MOST_ALTS];
        // At which columns of the whole all ITEMS behind this one can be over any TOKENS.
        final long[] freeBehind = new long[SLOTS];

        void copyFrom(Rules other) {
            count = other.count;
            empties = other.empties;
            System.arraycopy(other.names, 0, names, 0, names.length);
            System.arraycopy(other.alts, 0, alts, 0, alts.length);
            System.arraycopy(other.items, 0, items, 0, items.length);
            System.arraycopy(other.parts, 0, parts, 0, parts.length);
            System.arraycopy(other.targets, 0, targets, 0, targets.length);
            System.arraycopy(other.bonds, 0, bonds, 0, bonds.length);
            System.arraycopy(other.free, 0, free, 0, free.length);
            System.arraycopy(other.altFree, 0, altFree, 0, altFree.length);
            System.arraycopy(other.freeBehind, 0, freeBehind, 0, freeBehind.length);
        }

        int named(int name) {
            for (int rule = 0; rule < count; rule++) {
                if (names[rule] == name) {
                    return rule;
                }
            }
            return NONE;
        }

        boolean hasSign(int sign) {
            for (int alt = 0; alt < count * MOST_ALTS; alt++) {
                for (int k = 0; k < itemsOf(alt); k++) {
                    int slot = alt * MOST_ITEMS + k;
                    if (targets[slot] == NONE && parts[slot] == sign) {
                        return true;
                    }
                }
            }
            return false;
        }

        /** None of an ALT that the RULE has not. */
        int itemsOf(int alt) {
            return alt % MOST_ALTS < alts[alt / MOST_ALTS] ? items[alt] : 0;
        }

        boolean canBeEmpty(int rule) {
            return rule != NONE && (empties >> rule & 1) != 0;
        }

        void findEmpties() {
            empties = 0;
            for (int pass = 0; pass < count; pass++) {
                for (int rule = 0; rule < count; rule++) {
                    if (hasEmptyAlt(rule)) {
                        empties |= 1 << rule;
                    }
                }
            }
        }

        private boolean hasEmptyAlt(int rule) {
            for (int alt = 0; alt < alts[rule]; alt++) {
                if (neverEmpty(rule * MOST_ALTS + alt) == 0) {
                    return true;
                }
            }
            return false;
        }

        private int neverEmpty(int alt) {
            int found = 0;
            for (int k = 0; k < items[alt]; k++) {
                if (!canBeEmpty(targets[alt * MOST_ITEMS + k])) {
                    found++;
                }
            }
            return found;
        }

        /** The first RULE that comes to itself over the same TOKENS. */
        int firstRound() {
            for (int rule = 0; rule < count; rule++) {
                int come = cameTo(rule);
                for (int pass = 0; pass < count; pass++) {
                    for (int other = 0; other < count; other++) {
                        if ((come >> other & 1) != 0) {
                            come |= cameTo(other);
                        }
                    }
                }
                if ((come >> rule & 1) != 0) {
                    return rule;
                }
            }
            return NONE;
        }

        private int cameTo(int rule) {
            int come = 0;
            for (int alt = rule * MOST_ALTS; alt < rule * MOST_ALTS + alts[rule]; alt++) {
                int solid = neverEmpty(alt);
                for (int k = 0; k < items[alt]; k++) {
                    int target = targets[alt * MOST_ITEMS + k];
                    int itself = canBeEmpty(target) ? 0 : 1;
                    if (target != NONE && solid == itself) {
                        come |= 1 << target;
                    }
                }
            }
            return come;
        }

        void findFree() {
            Arrays.fill(free, 0L);
            boolean more = true;
            for (int pass = 0; more && pass < MOST_PASSES; pass++) {
                more = false;
                for (int rule = 0; rule < count; rule++) {
                    long columns = freeOf(rule);
                    more = more || columns != free[rule];
                    free[rule] = columns;
                }
            }
        }

        private long freeOf(int rule) {
            long columns = 0;
            for (int alt = rule * MOST_ALTS; alt < rule * MOST_ALTS + alts[rule]; alt++) {
                long byAlt = ALL;
                for (int k = items[alt] - 1; k >= 0; k--) {
                    int slot = alt * MOST_ITEMS + k;
                    freeBehind[slot] = byAlt;
                    byAlt &= wholesOf(bonds[slot], targets[slot] == NONE ? ALL : free[targets[slot]]);
                }
                altFree[alt] = byAlt;
                columns |= byAlt;
            }
            return columns;
        }
    }

    /** Reads a GRAMMAR's signs; each step answers the place of a FAULT, or NONE. */
    private static final class GrammarReader {
        final Rules found = new Rules();
        private final int[] namePlaces = new int[MOST_RULES];
        private final int[] partPlaces = new int[SLOTS];
        private int[] signs = new int[0];
        private int length;
        private int place;

        int readGrammar(int[] text, int textLength) {
            signs = text;
            length = Math.min(textLength, text.length);
            place = 0;
            found.count = 0;
            int fault = readRules();
            if (fault == NONE) {
                fault = resolveNames();
            }
            if (fault != NONE) {
                return fault;
            }
            found.findEmpties();
            int round = found.firstRound();
            if (round != NONE) {
                return namePlaces[round];
            }
            found.findFree();
            return NONE;
        }

        private int readRules() {
            for (int rule = 0; rule <= MOST_RULES; rule++) {
                int fault = readName(rule);
                if (fault == NONE) {
                    fault = readAlts(rule);
                }
                if (fault != NONE || here() == NONE) {
                    return fault;
                }
                place++;
            }
            return place;
        }

        private int readName(int rule) {
            skipBlanks();
            int name = here();
            if (!isName(name) || rule >= MOST_RULES || found.named(name) != NONE) {
                return place;
            }
            found.names[rule] = name;
            found.count = rule + 1;
            namePlaces[rule] = place;
            place++;
            skipBlanks();
            if (here() != ':') {
                return place;
            }
            place++;
            return NONE;
        }

        private int readAlts(int rule) {
            for (int alt = 0; alt < MOST_ALTS; alt++) {
                found.alts[rule] = alt + 1;
                int fault = readItems(rule * MOST_ALTS + alt);
                if (fault != NONE || here() != '/') {
                    return fault;
                }
                if (alt + 1 < MOST_ALTS) {
                    place++;
                }
            }
            return place;
        }

        private int readItems(int alt) {
            for (int k = 0; k <= MOST_ITEMS; k++) {
                skipBlanks();
                int sign = here();
                if (sign == NONE || sign == ';' || sign == '/') {
                    found.items[alt] = k;
                    return NONE;
                }
                if (k == MOST_ITEMS) {
                    return place;
                }
                int fault = readItem(alt * MOST_ITEMS + k);
                if (fault != NONE) {
                    return fault;
                }
            }
            return place;
        }

        private int readItem(int slot) {
            found.bonds[slot] = 0;
            if (isBond(here())) {
                found.bonds[slot] = here();
                place++;
                skipBlanks();
            }
            boolean isName = isName(here());
            if (!isName) {
                if (here() != '\'') {
                    return place;
                }
                place++;
                if (!isSign(here())) {
                    return place;
                }
            }
            found.parts[slot] = here();
            // Which RULE it is can only be told when all are read.
            found.targets[slot] = isName ? 0 : NONE;
            partPlaces[slot] = place;
            place++;
            return NONE;
        }

        private int resolveNames() {
            for (int alt = 0; alt < found.count * MOST_ALTS; alt++) {
                for (int k = 0; k < found.itemsOf(alt); k++) {
                    int slot = alt * MOST_ITEMS + k;
                    if (found.targets[slot] != NONE) {
                        found.targets[slot] = found.named(found.parts[slot]);
                        if (found.targets[slot] == NONE) {
                            return partPlaces[slot];
                        }
                    }
                }
            }
            return NONE;
        }

        private void skipBlanks() {
            while (place < length && signs[place] == BLANK) {
                place++;
            }
        }

        private int here() {
            return place < length ? signs[place] : NONE;
        }

        private static boolean isName(int sign) {
            return sign >= 'A' && sign <= 'Z';
        }

        private static boolean isBond(int sign) {
            return sign == '=' || sign == '>' || sign == '*';
        }
    }

    /** The TOKENS of a text in their order; an ACT that is refused leaves them. */
    private static final class Tokens {
        int count;
        final int[] signs = new int[MOST_TOKENS];
        final int[] lines = new int[MOST_TOKENS];
        final int[] columns = new int[MOST_TOKENS];

        void copyFrom(Tokens other) {
            count = other.count;
            System.arraycopy(other.signs, 0, signs, 0, MOST_TOKENS);
            System.arraycopy(other.lines, 0, lines, 0, MOST_TOKENS);
            System.arraycopy(other.columns, 0, columns, 0, MOST_TOKENS);
        }

        /** The place of a FAULT, or NONE. */
        int readText(int[] text, int length) {
            count = 0;
            int line = 0;
            int column = 0;
            for (int place = 0; place < length && place < text.length; place++) {
                int sign = text[place];
                if (isSign(sign)) {
                    if (column >= COLUMNS || !add(sign, line, column)) {
                        return place;
                    }
                } else if (sign != BLANK && sign != LINE_END) {
                    return place;
                }
                line += sign == LINE_END ? 1 : 0;
                column = sign == LINE_END ? 0 : column + 1;
            }
            return NONE;
        }

        boolean add(int sign, int line, int column) {
            if (count >= MOST_TOKENS) {
                return false;
            }
            signs[count] = sign;
            lines[count] = line;
            columns[count] = column;
            count++;
            return true;
        }

        int moveLine(int line, int by) {
            if (by <= -COLUMNS || by >= COLUMNS) {
                return NO_NUMBER;
            }
            int moved = 0;
            boolean stays = true;
            for (int k = 0; k < count; k++) {
                if (lines[k] == line) {
                    moved++;
                    stays = stays && isColumn(columns[k] + by);
                }
            }
            if (moved == 0) {
                return NO_SUCH;
            }
            if (!stays) {
                return NOT_NOW;
            }
            for (int k = 0; k < count; k++) {
                columns[k] += lines[k] == line ? by : 0;
            }
            return moved;
        }

        int putSign(int line, int column, int sign) {
            int lastLine = count == 0 ? -1 : lines[count - 1];
            if (line < 0 || line > lastLine + 1 || !isColumn(column) || !isSign(sign)) {
                return NO_NUMBER;
            }
            int place = 0;
            while (place < count && isAhead(place, line, column)) {
                place++;
            }
            boolean taken = place < count && lines[place] == line && columns[place] == column;
            if (taken || count >= MOST_TOKENS) {
                return NOT_NOW;
            }
            shift(place, place + 1);
            signs[place] = sign;
            lines[place] = line;
            columns[place] = column;
            count++;
            return place;
        }

        private boolean isAhead(int k, int line, int column) {
            return lines[k] < line || lines[k] == line && columns[k] < column;
        }

        private void shift(int from, int to) {
            System.arraycopy(signs, from, signs, to, count - from);
            System.arraycopy(lines, from, lines, to, count - from);
            System.arraycopy(columns, from, columns, to, count - from);
        }

        int takeToken(int k) {
            if (k < 0 || k >= count) {
                return NO_SUCH;
            }
            shift(k + 1, k);
            count--;
            return count;
        }

        int changeToken(int k, int sign) {
            if (!isSign(sign)) {
                return NO_NUMBER;
            }
            if (k < 0 || k >= count) {
                return NO_SUCH;
            }
            if (signs[k] == sign) {
                return NOT_NOW;
            }
            int old = signs[k];
            signs[k] = sign;
            return old;
        }

        int partLine(int k, int column) {
            if (!isColumn(column)) {
                return NO_NUMBER;
            }
            if (k < 0 || k >= count) {
                return NO_SUCH;
            }
            int line = lines[k];
            int by = column - columns[k];
            int behind = k;
            while (behind + 1 < count && lines[behind + 1] == line) {
                behind++;
            }
            if (beginsLine(k) || !isColumn(columns[behind] + by)) {
                return NOT_NOW;
            }
            for (int later = k; later < count; later++) {
                columns[later] += later <= behind ? by : 0;
                lines[later]++;
            }
            return line + 1;
        }

        boolean beginsLine(int k) {
            return k == 0 || lines[k - 1] != lines[k];
        }

        int howManyLines() {
            int found = 0;
            for (int k = 0; k < count; k++) {
                found += beginsLine(k) ? 1 : 0;
            }
            return found;
        }

        int leastColumn(int from, int to) {
            int least = NONE;
            for (int k = from; k < to; k++) {
                least = least == NONE ? columns[k] : Math.min(least, columns[k]);
            }
            return least;
        }

        int greatestColumn(int from, int to) {
            int greatest = NONE;
            for (int k = from; k < to; k++) {
                greatest = Math.max(greatest, columns[k]);
            }
            return greatest;
        }

        int howManyAheadOf(int column, int from, int to) {
            int found = 0;
            for (int k = from; k < to; k++) {
                found += columns[k] < column ? 1 : 0;
            }
            return found;
        }
    }

    /** WHERE of all RULES over all TOKENS from i up to j. */
    private static final class Chart {
        Rules rules;
        Tokens tokens;
        boolean stands;
        private final long[] where = new long[MOST_RULES * PLACES * PLACES];
        // Of each ITEM, for one i: the columns at which its ALT's ITEMS up to it, with it, are over i up to each j.
        private final long[] rows = new long[SLOTS * PLACES];

        Chart(Rules rules, Tokens tokens) {
            this.rules = rules;
            this.tokens = tokens;
        }

        void turnTo(Rules newRules, Tokens newTokens) {
            rules = newRules;
            tokens = newTokens;
            stands = false;
        }

        /** Whether it FITS; false without a GRAMMAR. */
        boolean readOnce() {
            for (int i = tokens.count; i >= 0 && !stands; i--) {
                for (int j = i; j <= tokens.count; j++) {
                    readSpan(i, j);
                }
            }
            stands = true;
            return rules.count > 0 && columnsOver(START, 0, tokens.count) != 0;
        }

        long columnsOver(int rule, int i, int j) {
            return where[(rule * PLACES + i) * PLACES + j];
        }

        // A RULE may need others over the same TOKENS, but never itself: so many passes as there are RULES settle it.
        // The pass behind them finds all rows with what is settled.
        private void readSpan(int i, int j) {
            for (int rule = 0; rule < rules.count; rule++) {
                where[(rule * PLACES + i) * PLACES + j] = 0;
            }
            boolean more = true;
            for (int pass = 0; more && pass <= rules.count; pass++) {
                more = false;
                for (int rule = rules.count - 1; rule >= 0; rule--) {
                    long columns = fillRule(rule, i, j);
                    int at = (rule * PLACES + i) * PLACES + j;
                    more = more || columns != where[at];
                    where[at] = columns;
                }
            }
        }

        void fillRows(int i, int last) {
            for (int j = i; j <= last; j++) {
                for (int rule = 0; rule < rules.count; rule++) {
                    fillRule(rule, i, j);
                }
            }
        }

        private long fillRule(int rule, int i, int j) {
            long columns = 0;
            for (int alt = rule * MOST_ALTS; alt < rule * MOST_ALTS + rules.alts[rule]; alt++) {
                long byAlt = i == j ? ALL : 0;
                for (int k = 0; k < rules.items[alt]; k++) {
                    int slot = alt * MOST_ITEMS + k;
                    byAlt = upToItem(slot, i, j);
                    rows[slot * PLACES + j] = byAlt;
                }
                columns |= byAlt;
            }
            return columns;
        }

        private long upToItem(int slot, int i, int j) {
            int bond = rules.bonds[slot];
            int first = rules.targets[slot] == NONE ? Math.max(i, j - 1) : i;
            long columns = 0;
            for (int p = first; p <= j; p++) {
                long ahead = aheadOf(slot, i, p);
                if (ahead != 0) {
                    columns |= ahead & wholesOf(bond, columnsOfItem(slot, p, j));
                }
            }
            return columns;
        }

        /** At which columns the ITEMS ahead of this one are over i up to p. */
        long aheadOf(int slot, int i, int p) {
            if (slot % MOST_ITEMS == 0) {
                return p == i ? ALL : 0;
            }
            return rows[(slot - 1) * PLACES + p];
        }

        /** At which columns an ITEM can stand over p up to q. */
        long columnsOfItem(int slot, int p, int q) {
            int target = rules.targets[slot];
            if (target != NONE) {
                return where[(target * PLACES + p) * PLACES + q];
            }
            return q == p + 1 && tokens.signs[p] == rules.parts[slot] ? 1L << tokens.columns[p] : 0;
        }
    }

    /** At which columns a sign can come behind the first TOKENS, so that they go on with it. */
    private static final class Outlook {
        private final Chart chart;
        // Of each RULE and i: the columns of NODES from i on that are not over yet at the new sign.
        private final long[] open = new long[MOST_RULES * PLACES];
        private int last;
        private int sign;
        private long found;

        Outlook(Chart chart) {
            this.chart = chart;
        }

        long columnsBehind(int m, int newSign, int rule) {
            last = m;
            sign = newSign;
            found = 0;
            Arrays.fill(open, 0L);
            open[rule * PLACES] = ALL;
            for (int i = 0; i <= m; i++) {
                chart.fillRows(i, m);
                openAt(i);
            }
            return found;
        }

        // A RULE may begin with itself here, as what is behind it need not be there yet.
        private void openAt(int i) {
            boolean more = true;
            for (int pass = 0; more && pass < MOST_PASSES; pass++) {
                more = false;
                for (int rule = 0; rule < chart.rules.count; rule++) {
                    if (open[rule * PLACES + i] != 0 && openItems(rule, i)) {
                        more = true;
                    }
                }
            }
        }

        /** Whether there is more open than there was. */
        private boolean openItems(int rule, int i) {
            Rules rules = chart.rules;
            boolean more = false;
            for (int alt = rule * MOST_ALTS; alt < rule * MOST_ALTS + rules.alts[rule]; alt++) {
                for (int k = 0; k < rules.items[alt]; k++) {
                    int slot = alt * MOST_ITEMS + k;
                    long wholes = open[rule * PLACES + i] & rules.freeBehind[slot];
                    for (int p = i; p <= last && wholes != 0; p++) {
                        long parts = partsOf(rules.bonds[slot], wholes & chart.aheadOf(slot, i, p));
                        if (openItem(slot, p, parts)) {
                            more = true;
                        }
                    }
                }
            }
            return more;
        }

        private boolean openItem(int slot, int p, long parts) {
            int target = chart.rules.targets[slot];
            if (target == NONE) {
                boolean isIt = sign == ANY || sign == chart.rules.parts[slot];
                found |= p == last && isIt ? parts : 0;
                return false;
            }
            long before = open[target * PLACES + p];
            open[target * PLACES + p] = before | parts;
            return (parts & ~before) != 0;
        }
    }

    /** THE TREE of a chart that fits, its NODES over no TOKENS left out. */
    private static final class Tree {
        int size;
        private final int[] rows = new int[MOST_NODES * ROW];
        private final int[] waiting = new int[MOST_NODES * ROW];
        private int waits;
        // Of each ITEM of an ALT the places (bits) from which it and those behind it reach the NODE's end.
        private final int[] reaching = new int[MOST_ITEMS + 1];
        private final int[] ends = new int[MOST_ITEMS + 1];
        private final int[] sums = new int[PLACES];
        private final Chart chart;

        Tree(Chart chart) {
            this.chart = chart;
        }

        void build() {
            size = 0;
            waits = 0;
            int all = chart.tokens.count;
            if (all > 0) {
                await(START, 0, all, leastOf(chart.columnsOver(START, 0, all)), NONE, 0);
            }
            while (waits > 0 && size < MOST_NODES) {
                waits--;
                System.arraycopy(waiting, waits * ROW, rows, size * ROW, ROW);
                size++;
                openNode(size - 1);
            }
        }

        boolean isNode(int k) {
            return k >= 0 && k < size;
        }

        int field(int k, int what) {
            return rows[k * ROW + what];
        }

        private void await(int rule, int from, int to, int column, int above, int bond) {
            if (waits >= MOST_NODES) {
                return;
            }
            int at = waits * ROW;
            waiting[at + RULE] = rule;
            waiting[at + FROM] = from;
            waiting[at + TO] = to;
            waiting[at + COLUMN] = column;
            waiting[at + ABOVE] = above;
            waiting[at + LEVEL] = above == NONE ? 0 : field(above, LEVEL) + 1;
            waiting[at + BOND] = bond;
            waits++;
        }

        private void openNode(int k) {
            int rule = field(k, RULE);
            for (int alt = 0; alt < chart.rules.alts[rule]; alt++) {
                if (reaches(k, rule * MOST_ALTS + alt)) {
                    rows[k * ROW + ALT] = alt;
                    awaitItems(k, rule * MOST_ALTS + alt);
                    return;
                }
            }
        }

        private boolean reaches(int k, int alt) {
            int items = chart.rules.items[alt];
            reaching[items] = 1 << field(k, TO);
            for (int item = items - 1; item >= 0; item--) {
                reaching[item] = 0;
                for (int p = field(k, FROM); p <= field(k, TO); p++) {
                    if (leastEnd(k, alt, item, p) != NONE) {
                        reaching[item] |= 1 << p;
                    }
                }
            }
            return (reaching[0] >> field(k, FROM) & 1) != 0;
        }

        private int leastEnd(int k, int alt, int item, int p) {
            for (int q = p; q <= field(k, TO); q++) {
                if ((reaching[item + 1] >> q & 1) != 0 && fitting(k, alt * MOST_ITEMS + item, p, q) != 0) {
                    return q;
                }
            }
            return NONE;
        }

        private long fitting(int k, int slot, int p, int q) {
            return chart.columnsOfItem(slot, p, q) & partsOf(chart.rules.bonds[slot], 1L << field(k, COLUMN));
        }

        // The last one waits first, so that the first one is taken first.
        private void awaitItems(int k, int alt) {
            int items = chart.rules.items[alt];
            ends[0] = field(k, FROM);
            for (int item = 0; item < items; item++) {
                ends[item + 1] = leastEnd(k, alt, item, ends[item]);
            }
            for (int item = items - 1; item >= 0; item--) {
                int slot = alt * MOST_ITEMS + item;
                int target = chart.rules.targets[slot];
                if (target != NONE && ends[item] < ends[item + 1]) {
                    int column = leastOf(fitting(k, slot, ends[item], ends[item + 1]));
                    await(target, ends[item], ends[item + 1], column, k, chart.rules.bonds[slot]);
                }
            }
        }

        int waysOf(int k) {
            int rule = field(k, RULE);
            int found = 0;
            for (int alt = 0; alt < chart.rules.alts[rule]; alt++) {
                found += waysBy(k, rule * MOST_ALTS + alt);
            }
            return found;
        }

        private int waysBy(int k, int alt) {
            int from = field(k, FROM);
            int to = field(k, TO);
            Arrays.fill(sums, 0);
            sums[from] = 1;
            for (int item = 0; item < chart.rules.items[alt]; item++) {
                // From the right, as each sum needs those ahead of it as they were.
                for (int q = to; q >= from; q--) {
                    int sum = 0;
                    for (int p = from; p <= q; p++) {
                        if (sums[p] != 0 && fitting(k, alt * MOST_ITEMS + item, p, q) != 0) {
                            sum += sums[p];
                        }
                    }
                    sums[q] = sum;
                }
            }
            return sums[to];
        }

        boolean has(int k, int token) {
            return field(k, FROM) <= token && token < field(k, TO);
        }

        int howManyWith(int what, int value) {
            int found = 0;
            for (int k = 0; k < size; k++) {
                found += field(k, what) == value ? 1 : 0;
            }
            return found;
        }

        int howManyHave(int token) {
            int found = 0;
            for (int k = 0; k < size; k++) {
                found += has(k, token) ? 1 : 0;
            }
            return found;
        }

        // Those that have one TOKEN are above one another, so the last of them is the lowest.
        int lowestRule(int token) {
            int rule = NONE;
            for (int k = 0; k < size; k++) {
                rule = has(k, token) ? field(k, RULE) : rule;
            }
            return rule;
        }

        int depth() {
            int depth = 0;
            for (int k = 0; k < size; k++) {
                depth = Math.max(depth, field(k, LEVEL) + 1);
            }
            return depth;
        }

        int howManyAside(Tokens tokens) {
            int found = 0;
            for (int k = 0; k < size; k++) {
                found += field(k, COLUMN) != tokens.columns[field(k, FROM)] ? 1 : 0;
            }
            return found;
        }

        boolean isLike(Tree other) {
            if (size != other.size) {
                return false;
            }
            for (int k = 0; k < size; k++) {
                int name = chart.rules.names[field(k, RULE)];
                int otherName = other.chart.rules.names[other.field(k, RULE)];
                boolean same = name == otherName && field(k, ALT) == other.field(k, ALT)
                    && field(k, FROM) == other.field(k, FROM) && field(k, TO) == other.field(k, TO);
                if (!same) {
                    return false;
                }
            }
            return true;
        }
    }

    /** Draws a NODE of THE START and its TOKENS. */
    private static final class Grower {
        final Tokens grown = new Tokens();
        private final Rules rules;
        private int drawn;

        Grower(Rules rules) {
            this.rules = rules;
        }

        boolean growFrom(int seed) {
            grown.count = 0;
            drawn = seed;
            if (rules.count == 0 || rules.free[START] == 0) {
                return false;
            }
            return growNode(START, drawColumn(rules.free[START]), 0);
        }

        private boolean growNode(int rule, int column, int above) {
            if (above > MOST_ABOVE) {
                return false;
            }
            int alt = drawAlt(rule, column);
            for (int k = 0; k < rules.items[alt]; k++) {
                if (!growItem(alt * MOST_ITEMS + k, column, above)) {
                    return false;
                }
            }
            return true;
        }

        private boolean growItem(int slot, int whole, int above) {
            int target = rules.targets[slot];
            long columns = partsOf(rules.bonds[slot], 1L << whole);
            if (target != NONE) {
                columns &= rules.free[target];
            }
            int column = drawColumn(columns);
            if (target != NONE) {
                return growNode(target, column, above + 1);
            }
            return grown.add(rules.parts[slot], lineFor(column), column);
        }

        private int lineFor(int column) {
            if (grown.count == 0) {
                return 0;
            }
            int ahead = grown.count - 1;
            return grown.lines[ahead] + (grown.columns[ahead] < column ? 0 : 1);
        }

        private int drawAlt(int rule, int column) {
            int can = 0;
            for (int alt = rule * MOST_ALTS; alt < rule * MOST_ALTS + rules.alts[rule]; alt++) {
                can += hasColumn(rules.altFree[alt], column) ? 1 : 0;
            }
            int left = draw(can);
            for (int alt = rule * MOST_ALTS; alt < rule * MOST_ALTS + rules.alts[rule]; alt++) {
                if (hasColumn(rules.altFree[alt], column)) {
                    if (left == 0) {
                        return alt;
                    }
                    left--;
                }
            }
            return rule * MOST_ALTS;
        }

        private int drawColumn(long columns) {
            int left = draw(Long.bitCount(columns));
            for (int column = 0; column < COLUMNS; column++) {
                if (hasColumn(columns, column)) {
                    if (left == 0) {
                        return column;
                    }
                    left--;
                }
            }
            return 0;
        }

        private int draw(int m) {
            drawn = (1103 * drawn + 12345) % 1000003;
            return m > 0 ? drawn % m : 0;
        }
    }

    /** The TOKENS as they were ahead of the latest ACTS. */
    private static final class History {
        int size;
        private int end;
        private final Tokens[] past = new Tokens[MOST_ACTS];

        History() {
            for (int k = 0; k < MOST_ACTS; k++) {
                past[k] = new Tokens();
            }
        }

        void forget() {
            size = 0;
        }

        void remember(Tokens tokens) {
            past[end].copyFrom(tokens);
            end = (end + 1) % MOST_ACTS;
            size = Math.min(size + 1, MOST_ACTS);
        }

        void takeBack(Tokens tokens) {
            end = (end + MOST_ACTS - 1) % MOST_ACTS;
            size--;
            tokens.copyFrom(past[end]);
        }
    }

    /** THE LINE. */
    private static final class Letters {
        int length;
        final int[] letters = new int[MOST_LETTERS];

        private void add(int letter) {
            if (length < MOST_LETTERS) {
                letters[length] = letter;
                length++;
            }
        }

        void printTokens(Tokens tokens) {
            length = 0;
            int column = 0;
            for (int k = 0; k < tokens.count; k++) {
                if (k > 0 && tokens.beginsLine(k)) {
                    add(LINE_END);
                    column = 0;
                }
                for (; column < tokens.columns[k]; column++) {
                    add(BLANK);
                }
                add(tokens.signs[k]);
                column++;
            }
        }

        void writeRules(Rules rules) {
            length = 0;
            for (int rule = 0; rule < rules.count; rule++) {
                if (rule > 0) {
                    add(';');
                }
                add(rules.names[rule]);
                add(':');
                for (int alt = 0; alt < rules.alts[rule]; alt++) {
                    if (alt > 0) {
                        add('/');
                    }
                    writeAlt(rules, rule * MOST_ALTS + alt);
                }
            }
        }

        private void writeAlt(Rules rules, int alt) {
            for (int k = 0; k < rules.items[alt]; k++) {
                int slot = alt * MOST_ITEMS + k;
                if (rules.bonds[slot] != 0) {
                    add(rules.bonds[slot]);
                }
                if (rules.targets[slot] == NONE) {
                    add('\'');
                }
                add(rules.parts[slot]);
            }
        }
    }

    /** What was kept under a number. */
    private static final class Kept {
        boolean holds;
        final Rules rules = new Rules();
        final Tokens tokens = new Tokens();

        void hold(Rules newRules, Tokens newTokens) {
            rules.copyFrom(newRules);
            tokens.copyFrom(newTokens);
            holds = true;
        }
    }

    /** The least moving of a LINE by which all fits; by 0: there is none. */
    private static final class Repairs {
        boolean known;
        int line;
        int by;
        private final Tokens moved = new Tokens();

        void search(Chart chart, Rules rules, Tokens tokens) {
            known = true;
            by = 0;
            chart.turnTo(rules, moved);
            for (int far = 1; far <= FARTHEST_REPAIR && by == 0; far++) {
                for (int k = 0; k < tokens.count && by == 0; k++) {
                    if (tokens.beginsLine(k)) {
                        line = tokens.lines[k];
                        by = fitsMoved(chart, tokens, -far) ? -far : 0;
                        if (by == 0 && fitsMoved(chart, tokens, far)) {
                            by = far;
                        }
                    }
                }
            }
        }

        private boolean fitsMoved(Chart chart, Tokens tokens, int far) {
            moved.copyFrom(tokens);
            chart.stands = false;
            return moved.moveLine(line, far) > 0 && chart.readOnce();
        }
    }
}
