/** What the tests share: answers that are due, and texts typed in fours. */
final class Due {
    private int right;
    private int wrong;
    private String of = "";

    void of(String promise) {
        of = promise;
    }

    void due(String call, long got, long want) {
        if (got == want) {
            right++;
        } else {
            wrong++;
            System.out.println(of + ": " + call + " answered " + got + ", due is " + want);
        }
    }

    void due(String call, boolean got, boolean want) {
        due(call, got ? 1 : 0, want ? 1 : 0);
    }

    void finish() {
        System.out.println(right + " answers as due, " + wrong + " not");
        if (wrong != 0 || right == 0) {
            System.exit(1);
        }
    }

    /** THE TEXT becomes just these signs. */
    static void type(ColumnGrammar x, String text) {
        x.end(0);
        String padded = text + " ".repeat((4 - text.length() % 4) % 4);
        for (int k = 0; k < padded.length(); k += 4) {
            x.sign(padded.charAt(k) << 24 | padded.charAt(k + 1) << 16 | padded.charAt(k + 2) << 8 | padded.charAt(k + 3));
        }
        x.end(text.length());
    }

    static int grammar(ColumnGrammar x, String text) {
        type(x, text);
        return x.grammar();
    }

    static int text(ColumnGrammar x, String text) {
        type(x, text);
        return x.text();
    }

    static ColumnGrammar made(String grammar, String text) {
        ColumnGrammar x = new ColumnGrammar();
        if (grammar(x, grammar) < 1 || text(x, text) < 0) {
            throw new IllegalStateException("the test's own grammar or text has a fault: " + grammar + " | " + text);
        }
        return x;
    }

    /** THE LINE as it stands. */
    static String line(ColumnGrammar x) {
        StringBuilder b = new StringBuilder();
        int letters = x.count(4);
        for (int i = 0; i < letters; i++) {
            b.append((char) x.letter(i));
        }
        return b.toString();
    }
}
