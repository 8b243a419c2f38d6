import java.util.NoSuchElementException;
import java.util.Random;

/** Large grammars and texts, and numbers of all sizes: nothing but rule() throws, and answers agree with one another. */
public final class StressTest {
    private static final int[] FAR = {Integer.MIN_VALUE, Integer.MIN_VALUE + 1, -1001, -40, -39, -7, -2, -1, 0, 1, 2, 3, 4, 5, 6,
        7, 8, 9, 19, 20, 21, 32, 33, 39, 40, 41, 120, 126, 127, 239, 240, 241, 819, 999_999, 1_000_000, 1_000_003,
        Integer.MAX_VALUE - 1, Integer.MAX_VALUE};
    private static final String[] GRAMMARS = {
        "A:BCDEF/FEDCB/'x/'xA;B:'xCDEF/CDEF'x/'x/BB'x;C:'xDEF/DEFG'x/'x/CC;D:'xEFG/EFGH'x/'x/DD;E:'x/EEE/FF'x/GGH;"
            + "F:'x/'x'x/F'xF;G:'x/'xG/GG;H:'x/HH",
        "A:BBBBB/BBBBB/BBBBB/BBBBB;B:CCCCC/CCCCC/CCCCC/CCCCC;C:DDDDD/DDDDD/DDDDD/DDDDD;D:EEEEE/EEEEE/EEEEE/EEEEE;"
            + "E:FFFFF/FFFFF/FFFFF/FFFFF;F:GGGGG/GGGGG/GGGGG/GGGGG;G:HHHHH/HHHHH/HHHHH/HHHHH;H:/",
        "A:BBBBB/BBBBB/BBBBB/BBBBB;B:=CCCCC/CCCCC/>CCCCC/*CCCCC;C:DDDDD/DDDDD/DDDDD/DDDDD;D:EEEEE/EEEEE/EEEEE/EEEEE;"
            + "E:FFFFF/FFFFF/FFFFF/FFFFF;F:GGGGG/GGGGG/GGGGG/GGGGG;G:HHHHH/HHHHH/HHHHH/HHHHH;H:/'x",
        "B:=L/=L=B;L:='x/='x'{>B", "A:'xA'x/A'x/'x", "A:AA'x/", "A:B'x;B:>C/;C:>D;D:>E'x;E:*A/", "S:'(*S')/'x/S=S'x",
        "A:HAAA'x/'x/;H:CCCCC;C:DDDDD;D:EEEEE;E:FFFFF;F:GGGGG;G:IIIII;I:",
    };
    private static int wrong;

    public static void main(String[] args) {
        int runs = args.length > 0 ? Integer.parseInt(args[0]) : 60;
        for (int seed = 0; seed < runs; seed++) {
            callAnything(new Random(seed));
            agree(new Random(seed));
        }
        System.out.println(wrong == 0 ? "nothing was thrown, all agreed" : wrong + " wrong");
        if (wrong != 0) {
            System.exit(1);
        }
    }

    private static void say(boolean right, String what) {
        if (!right) {
            wrong++;
            System.out.println(what);
        }
    }

    private static void callAnything(Random random) {
        ColumnGrammar x = new ColumnGrammar();
        for (int k = 0; k < 512; k++) {
            int kind = random.nextInt(60);
            try {
                if (kind > 57) {
                    Due.grammar(x, GRAMMARS[random.nextInt(GRAMMARS.length)]);
                } else if (kind > 55) {
                    Due.text(x, drawText(random));
                } else {
                    call(x, kind % 40, far(random), far(random), far(random), far(random));
                }
            } catch (RuntimeException e) {
                say(e instanceof NoSuchElementException && kind % 40 == 4, "call " + kind % 40 + " threw " + e);
            }
        }
    }

    private static int far(Random random) {
        return random.nextInt(3) == 0 ? FAR[random.nextInt(FAR.length)] : random.nextInt(8);
    }

    private static String drawText(Random random) {
        StringBuilder b = new StringBuilder();
        int tokens = random.nextInt(21);
        for (int k = 0; k < tokens && b.length() < 220; k++) {
            b.append(random.nextInt(3) == 0 ? "\n" : "").append(" ".repeat(random.nextInt(5)));
            b.append("xxxx{()".charAt(random.nextInt(7)));
        }
        return b.toString();
    }

    private static void call(ColumnGrammar x, int kind, int a, int b, int c, int d) {
        switch (kind) {
            case 0 -> x.sign(a);
            case 1 -> x.end(a);
            case 2 -> x.grammar();
            case 3 -> x.text();
            case 4 -> x.rule(a, b);
            case 5 -> x.item(a, b, c, d);
            case 6 -> x.first(a, b);
            case 7 -> x.write();
            case 8 -> x.free(a);
            case 9 -> x.token(a, b);
            case 10 -> x.where(a, b, c);
            case 11 -> x.fits();
            case 12 -> x.blame(a);
            case 13 -> x.goesOn(a);
            case 14 -> x.hint(a);
            case 15 -> x.next(a, b);
            case 16 -> x.room(a);
            case 17 -> x.nodes();
            case 18 -> x.node(a, b);
            case 19 -> x.ways(a);
            case 20 -> x.extent(a, b);
            case 21 -> x.off(a);
            case 22 -> x.about(a, b);
            case 23 -> x.tree(a);
            case 24 -> x.move(a, b);
            case 25 -> x.put(a, b, c);
            case 26 -> x.take(a);
            case 27 -> x.change(a, b);
            case 28 -> x.part(a, b);
            case 29 -> x.grow(a);
            case 30 -> x.undo();
            case 31 -> x.repair(a);
            case 32 -> x.print();
            case 33 -> x.letter(a);
            case 34 -> x.keep(a);
            case 35 -> x.again(a);
            case 36 -> x.alike(a);
            default -> x.count(a);
        }
    }

    /** Answers that must go together, whatever they are. */
    private static void agree(Random random) {
        ColumnGrammar x = new ColumnGrammar();
        Due.grammar(x, GRAMMARS[random.nextInt(GRAMMARS.length)]);
        for (int round = 0; round < 6; round++) {
            int grown = random.nextInt(3) == 0 ? -1 : x.grow(random.nextInt(1_000_000));
            if (grown < 0) {
                Due.text(x, drawText(random));
            } else {
                say(x.fits() == 1, "what is grown does not fit");
            }
            if (random.nextInt(2) == 0) {
                x.move(random.nextInt(4), random.nextInt(7) - 3);
            }
            agreeOnBeginnings(x);
            agreeOnTree(x);
            agreeOnRepair(x);
        }
    }

    private static void agreeOnBeginnings(ColumnGrammar x) {
        int n = x.count(1);
        int blame = n;
        for (int m = n; m >= 0; m--) {
            boolean goes = x.goesOn(m) == 1;
            say(goes == (x.where(0, 0, m) != 0 || x.room(m) > 0), "goesOn and room differ at " + m);
            if (m > 0) {
                boolean next = (x.next(m - 1, x.token(m - 1, 0)) >> x.token(m - 1, 2) & 1) == 1;
                say(goes == next, "goesOn and next differ at " + m);
                blame = goes ? blame : m - 1;
            }
        }
        say(x.blame(0) == (x.fits() == 1 ? -1 : blame), "blame and goesOn differ");
        say((x.fits() == 1) == (x.where(0, 0, n) != 0), "fits and where differ");
    }

    private static void agreeOnTree(ColumnGrammar x) {
        for (int k = 0; k < x.nodes(); k++) {
            int above = x.node(k, 5);
            long where = x.where(x.node(k, 0), x.node(k, 2), x.node(k, 3));
            say((where >> x.node(k, 4) & 1) == 1, "a NODE stands where it can't");
            say(x.ways(k) >= 1, "a NODE has no ways");
            say(k == 0 ? above == -1 : above >= 0 && above < k, "a NODE ahead of the one above it");
            say(k == 0 || x.node(k, 6) == x.node(above, 6) + 1, "levels differ");
            say(k == 0 || x.node(k, 2) >= x.node(above, 2) && x.node(k, 3) <= x.node(above, 3), "a NODE beyond that above");
            say(x.node(k, 2) < x.node(k, 3), "a NODE over no TOKENS");
        }
        x.keep(0);
        say(x.alike(0) == (x.fits() == 1 ? 1 : -1), "a tree is not alike to itself");
    }

    private static void agreeOnRepair(ColumnGrammar x) {
        int line = x.repair(0);
        if (line != -1) {
            x.move(line, x.repair(1) - 100);
            say(x.fits() == 1, "repaired, it does not fit");
            x.undo();
            say(x.fits() == 0, "undone, it fits");
        }
    }
}
