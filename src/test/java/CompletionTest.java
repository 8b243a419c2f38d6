import java.util.Random;

/** FREE, GOES ON and the calls that ask for them, against TOKENS that are tried: promises 8, 10, 14, 15, 16, 17, 18. */
public final class CompletionTest {
    // Five TOKENS that open something are closed by one each, with one more in the midst: none of these needs more.
    private static final int MOST_MORE = 6;
    private static final String[] GRAMMARS = {
        "B:=L/=L=B;L:='x/='x'{>B", "B:L/BL;L:'x/'x'{>B", "S:'{*E'y;E:='x/='x=E", "S:'x/S>'y", "A:'x/'y;B:", "A:/'xA;B:A=A'y",
        "S:=E/=ES;E:'x/'{*E'y/'x>S", "A:B>C=D*E;B:/'x;C:'y/;D:'x;E:/'y'x", "S:AA;A:/'x/'x'x", "S:>S'x/'y", "S:*A*B;A:>'x/;B:='y/'y>S",
        "A:'x>A", "A:'x>A/B;B:=B'y/'{", "A:>B;B:>C;C:>D;D:", "A:>B'x;B:>C;C:>D;D:/'y", "S:=A>A=A;A:'x/'y/'xA", "A:*A'x/'x",
        "A:'x>B/'y;B:'{>B", "A:B/'x;B:>'y=C;C:C'x", "A:>A='x/>'y", "A:=B'x;B:>C/;C:='y", "A:B='y;B:/>B'x", "A:*B='y;B:>C;C:>'x",
    };
    private static final char[] SIGNS = {'x', 'y', '{'};
    private static int right;
    private static int wrong;

    public static void main(String[] args) {
        int seeds = args.length > 0 ? Integer.parseInt(args[0]) : 3;
        for (String grammar : GRAMMARS) {
            Completion tried = new Completion(grammar);
            ColumnGrammar x = Due.made(grammar, "");
            for (int rule = 0; rule < x.count(0); rule++) {
                freeAndFirst(grammar, tried, x, rule);
            }
            for (int seed = 0; seed < seeds; seed++) {
                beginnings(grammar, tried, x, new Random(seed));
            }
        }
        System.out.println(right + " answers as due, " + wrong + " not");
        if (wrong != 0 || right == 0) {
            System.exit(1);
        }
    }

    private static void due(String call, long got, long want) {
        right += got == want ? 1 : 0;
        wrong += got == want ? 0 : 1;
        if (got != want) {
            System.out.println(call + " answered " + got + ", due is " + want);
        }
    }

    private static long free(Completion tried, int rule) {
        long bits = 0;
        for (int more = 0; more <= MOST_MORE; more++) {
            tried.set(new int[0], new int[0], 0, more);
            bits |= tried.where(rule);
        }
        return bits;
    }

    /** Whether there is a NODE of a RULE over the first TOKENS and any behind them. */
    private static boolean goes(Completion tried, int rule, int[] signs, int[] columns, int first) {
        boolean goes = false;
        for (int more = 0; more <= MOST_MORE && !goes; more++) {
            tried.set(signs, columns, first, more);
            goes = tried.where(rule) != 0;
        }
        return goes;
    }

    private static void freeAndFirst(String grammar, Completion tried, ColumnGrammar x, int rule) {
        due(grammar + ": free(" + rule + ")", x.free(rule), free(tried, rule));
        int many = 0;
        for (char sign : SIGNS) {
            boolean begins = false;
            for (int column = 0; column < 40 && !begins; column++) {
                begins = goes(tried, rule, new int[] {sign}, new int[] {column}, 1);
            }
            if (begins) {
                due(grammar + ": first(" + rule + ", " + many + ")", x.first(rule, many), sign);
                many++;
            }
        }
        due(grammar + ": first(" + rule + ", -1)", x.first(rule, -1), many);
    }

    private static void beginnings(String grammar, Completion tried, ColumnGrammar x, Random random) {
        int n = random.nextInt(5);
        int[] signs = new int[n + 1];
        int[] columns = new int[n + 1];
        StringBuilder text = new StringBuilder();
        for (int k = 0; k < n; k++) {
            signs[k] = drawSign(x, k, random);
            columns[k] = drawColumn(x.next(k, signs[k]), random);
            text.append(k > 0 ? "\n" : "").append(" ".repeat(columns[k])).append((char) signs[k]);
            Due.text(x, text.toString());
        }
        if (n == 0) {
            Due.text(x, "");
        }
        String of = grammar + " | " + text.toString().replace("\n", "/");
        int blame = n;
        for (int m = n; m >= 0; m--) {
            boolean goes = goes(tried, 0, signs, columns, m);
            due(of + ": goesOn(" + m + ")", x.goesOn(m), goes ? 1 : 0);
            blame = goes || m == 0 ? blame : m - 1;
        }
        tried.set(signs, columns, n, 0);
        boolean fits = tried.where(0) != 0;
        due(of + ": blame(0)", x.blame(0), fits ? -1 : blame);
        nexts(of, tried, x, signs, columns, n);
        if (!fits && blame < n) {
            long could = next(tried, signs, columns, blame, signs[blame]);
            due(of + ": hint(1)", x.hint(1), Long.bitCount(could));
            due(of + ": hint(0)", x.hint(0), nearest(could, columns[blame]));
        }
    }

    /** Mostly one that can come there, so that BEGINNINGS of some length go on. */
    private static int drawSign(ColumnGrammar x, int k, Random random) {
        char sign = SIGNS[random.nextInt(SIGNS.length)];
        for (int tries = 0; tries < 8 && x.next(k, sign) == 0; tries++) {
            sign = SIGNS[random.nextInt(SIGNS.length)];
        }
        return sign;
    }

    private static int drawColumn(long could, Random random) {
        int column = random.nextInt(6);
        for (int tries = 0; tries < 4 && (could >> column & 1) == 0; tries++) {
            column = random.nextInt(6);
        }
        return column;
    }

    private static void nexts(String of, Completion tried, ColumnGrammar x, int[] signs, int[] columns, int m) {
        long any = 0;
        for (char sign : SIGNS) {
            long could = next(tried, signs, columns, m, sign);
            due(of + ": next(" + m + ", " + sign + ")", x.next(m, sign), could);
            any |= could;
        }
        due(of + ": room(" + m + ")", x.room(m), Long.bitCount(any));
    }

    private static long next(Completion tried, int[] signs, int[] columns, int m, int sign) {
        int[] withSigns = signs.clone();
        int[] withColumns = columns.clone();
        withSigns[m] = sign;
        long could = 0;
        for (int column = 0; column < 40; column++) {
            withColumns[m] = column;
            could |= goes(tried, 0, withSigns, withColumns, m + 1) ? 1L << column : 0;
        }
        return could;
    }

    private static int nearest(long could, int column) {
        int nearest = -1;
        for (int c = 39; c >= 0; c--) {
            boolean nearer = nearest < 0 || Math.abs(c - column) <= Math.abs(nearest - column);
            nearest = (could >> c & 1) != 0 && nearer ? c : nearest;
        }
        return nearest;
    }
}
