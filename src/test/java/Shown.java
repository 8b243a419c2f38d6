/**
 * What calls show of an object, as one text: two objects of which all of it is the same can't be told apart by them.
 * No count is asked for twice, so that the 512 calls of an object are enough.
 */
final class Shown {
    private Shown() {
    }

    /** All that there is, what can be undone, what is kept and THE TEXT, too; the object is used up by it. */
    static String all(ColumnGrammar x) {
        StringBuilder b = new StringBuilder(asked(x));
        int left = x.undo();
        for (int k = 0; left >= 0 && k < 20; k++) {
            b.append("undone, ").append(left).append(": ").append(tokens(x)).append('\n');
            left = x.undo();
        }
        b.append("THE TEXT: ").append(x.text()).append(' ').append(tokens(x)).append('\n');
        for (int k = 0; k < 2; k++) {
            b.append("kept ").append(k).append(": ").append(x.again(k)).append(' ').append(x.write()).append(' ');
            b.append(Due.line(x).replace('\n', '|')).append(' ').append(tokens(x)).append('\n');
        }
        return b.toString();
    }

    /** What can be asked without changing anything. */
    static String asked(ColumnGrammar x) {
        StringBuilder b = new StringBuilder("count:");
        for (int what = -1; what <= 8; what++) {
            b.append(' ').append(x.count(what));
        }
        b.append("\nTHE LINE: ").append(Due.line(x).replace('\n', '|'));
        b.append("\nTOKENS: ").append(tokens(x)).append('\n');
        rules(b, x);
        fit(b, x);
        tree(b, x);
        return b.toString();
    }

    /** Each as sign, LINE, COLUMN. */
    static String tokens(ColumnGrammar x) {
        StringBuilder b = new StringBuilder();
        int tokens = x.count(1);
        for (int k = 0; k < tokens; k++) {
            b.append(k > 0 ? " " : "").append((char) x.token(k, 0)).append(x.token(k, 1)).append(',').append(x.token(k, 2));
        }
        return b.toString();
    }

    private static void rules(StringBuilder b, ColumnGrammar x) {
        int rules = x.count(0);
        for (int rule = 0; rule < rules; rule++) {
            b.append("RULE ").append((char) x.rule(rule, 0)).append(x.rule(rule, 2)).append(' ').append(x.free(rule));
            int firsts = x.first(rule, -1);
            for (int i = 0; i < firsts; i++) {
                b.append(' ').append((char) x.first(rule, i));
            }
            int alts = x.rule(rule, 1);
            for (int alt = 0; alt < alts; alt++) {
                b.append(" /");
                int items = x.item(rule, alt, -1, 0);
                for (int k = 0; k < items; k++) {
                    b.append(' ').append(x.item(rule, alt, k, 2)).append(x.item(rule, alt, k, 1));
                    b.append((char) x.item(rule, alt, k, 0));
                }
            }
            b.append('\n');
        }
    }

    private static void fit(StringBuilder b, ColumnGrammar x) {
        b.append("fits ").append(x.fits());
        for (int what = 0; what < 2; what++) {
            b.append(' ').append(x.blame(what)).append(' ').append(x.hint(what)).append(' ').append(x.repair(what));
            b.append(' ').append(x.alike(what));
        }
        int tokens = x.count(1);
        for (int m = 0; m <= tokens; m++) {
            b.append(' ').append(x.goesOn(m)).append(x.room(m)).append(' ').append(x.where(0, 0, m));
        }
        b.append('\n');
    }

    private static void tree(StringBuilder b, ColumnGrammar x) {
        int nodes = x.nodes();
        int tokens = x.count(1);
        b.append("tree ").append(nodes);
        for (int what = 0; what < 3; what++) {
            b.append(' ').append(x.tree(what));
        }
        for (int k = 0; k < nodes; k++) {
            b.append(" /");
            for (int what = 0; what < 7; what++) {
                b.append(' ').append(x.node(k, what));
            }
            b.append(' ').append(x.ways(k)).append(' ').append(x.extent(k, 4));
        }
        for (int token = 0; token < tokens; token++) {
            b.append(' ').append(x.off(token)).append(x.about(token, 3));
        }
        b.append('\n');
    }
}
