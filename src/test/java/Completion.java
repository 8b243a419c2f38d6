import java.util.ArrayList;
import java.util.List;

/**
 * Whether there are NODES over given TOKENS and so many more behind them, of which only the number is told: each of these
 * may be any sign at any COLUMN. So FREE and GOES ON are looked for by trying 0, 1, .. TOKENS more, as the document's words
 * go, and not by what the class and the Model find: that all that is behind can be.
 */
final class Completion {
    private static final int ANY = -1;
    private static final int COLUMNS = 40;

    private record Item(char bond, boolean name, char part) { }

    private final List<Character> names = new ArrayList<>();
    private final List<List<List<Item>>> rules = new ArrayList<>();
    private final boolean[] empty;
    private int[] signs = {};
    private int[] columns = {};
    private Boolean[][][][] found = {};

    /** The grammar's text has no faults and no blanks. */
    Completion(String grammar) {
        for (int p = 0; p < grammar.length(); p++) {
            char sign = grammar.charAt(p);
            if (p == 0 || sign == ';') {
                p += sign == ';' ? 1 : 0;
                names.add(grammar.charAt(p));
                rules.add(new ArrayList<>(List.of(new ArrayList<>())));
                p++;
            } else if (sign == '/') {
                last(rules).add(new ArrayList<>());
            } else {
                boolean bonded = "=>*".indexOf(sign) >= 0;
                p += bonded ? 1 : 0;
                boolean name = grammar.charAt(p) != '\'';
                p += name ? 0 : 1;
                last(last(rules)).add(new Item(bonded ? sign : ' ', name, grammar.charAt(p)));
            }
        }
        empty = new boolean[rules.size()];
        for (int pass = 0; pass < rules.size(); pass++) {
            for (int r = 0; r < rules.size(); r++) {
                empty[r] = rules.get(r).stream().anyMatch(alt -> needed(alt, 0) == 0);
            }
        }
    }

    private static <T> T last(List<T> list) {
        return list.get(list.size() - 1);
    }

    /** The first of these TOKENS, and more behind them of any signs at any COLUMNS. */
    void set(int[] ofSigns, int[] ofColumns, int first, int more) {
        signs = new int[first + more];
        columns = new int[first + more];
        for (int k = 0; k < first + more; k++) {
            signs[k] = k < first ? ofSigns[k] : ANY;
            columns[k] = k < first ? ofColumns[k] : ANY;
        }
        found = new Boolean[rules.size()][COLUMNS][first + more + 1][first + more + 1];
    }

    /** The COLUMNS of NODES of a RULE over all TOKENS that were set. */
    long where(int rule) {
        long bits = 0;
        for (int c = 0; c < COLUMNS; c++) {
            bits |= isNode(rule, c, 0, signs.length) ? 1L << c : 0;
        }
        return bits;
    }

    private boolean isNode(int rule, int c, int i, int j) {
        Boolean known = found[rule][c][i][j];
        if (known == null) {
            known = false;
            for (List<Item> alt : rules.get(rule)) {
                known = known || areItems(alt, 0, c, i, j);
            }
            found[rule][c][i][j] = known;
        }
        return known;
    }

    private boolean areItems(List<Item> alt, int k, int c, int p, int j) {
        if (k == alt.size()) {
            return p == j;
        }
        // Those behind get what they need at least: so a NAME never comes to itself over the same TOKENS.
        for (int q = p; q <= j - needed(alt, k + 1); q++) {
            if (isItem(alt.get(k), c, p, q) && areItems(alt, k + 1, c, q, j)) {
                return true;
            }
        }
        return false;
    }

    private int needed(List<Item> alt, int from) {
        int needed = 0;
        for (Item item : alt.subList(from, alt.size())) {
            needed += item.name && empty[names.indexOf(item.part)] ? 0 : 1;
        }
        return needed;
    }

    private boolean isItem(Item item, int c, int p, int q) {
        if (!item.name && (q != p + 1 || signs[p] != ANY && signs[p] != item.part)) {
            return false;
        }
        for (int d = 0; d < COLUMNS; d++) {
            boolean fits = switch (item.bond) {
                case '=' -> d == c;
                case '>' -> d > c;
                case '*' -> true;
                default -> d >= c;
            };
            if (fits && (item.name ? isNode(names.indexOf(item.part), d, p, q) : columns[p] == ANY || columns[p] == d)) {
                return true;
            }
        }
        return false;
    }
}
