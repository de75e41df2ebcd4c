import java.util.Random;

/**
 * Mixed runs of calls, each answer set against that of Model. By
 * `MixedRunsTest [class file] [runs] [seed]` more runs or other ones.
 */
public final class MixedRunsTest {
    private static final int CALLS = 512;
    private static final int[] EDGES = {Integer.MIN_VALUE, Integer.MAX_VALUE, -1000, 1000, -1, 0, 1, 2, 3, 6, 10, 30, 31, 40, 41, 1 << 30};

    private final Random dice;
    private final Due due = new Due();
    private OneWinter x;
    private Model m;
    private String letters = "";
    private int fed = 0;
    private int calls = 0;

    private MixedRunsTest(long seed) {
        dice = new Random(seed);
    }

    public static void main(String[] args) {
        int runs = args.length > 1 ? Integer.parseInt(args[1]) : 40;
        long seed = args.length > 2 ? Long.parseLong(args[2]) : 1;
        MixedRunsTest test = new MixedRunsTest(seed);
        for (int i = 0; i < runs && test.due.wrong() < 20; i++) {
            test.run(i);
        }
        test.due.end("MixedRunsTest");
    }

    private void run(int number) {
        x = new OneWinter();
        m = new Model();
        letters = "";
        fed = 0;
        calls = 0;
        // Some runs are all of texts, some have few.
        int feeding = dice.nextInt(3) == 0 ? 90 : 30;
        // Some runs begin with users, so that most calls have something to say.
        if (dice.nextInt(4) != 0) {
            int many = 1 + dice.nextInt(6);
            for (int i = 0; i < many; i++) {
                user();
            }
        }
        // One step makes ten calls at most.
        while (calls <= CALLS - 10) {
            due.about("run " + number + ", behind call " + calls);
            if (dice.nextInt(100) < feeding || fed > 0 && fed < letters.length() && dice.nextInt(3) != 0) {
                text();
            } else {
                call();
            }
        }
    }

    private void is(String call, long got, long want) {
        calls++;
        due.is(call, got, want);
    }

    /** Mostly a number of 0 .. n - 1. */
    private int some(int n) {
        int kind = dice.nextInt(40);
        if (kind == 0) {
            return EDGES[dice.nextInt(EDGES.length)];
        }
        return kind == 1 ? dice.nextInt(n + 4) - 2 : dice.nextInt(n);
    }

    private void text() {
        if (fed < letters.length()) {
            int letter = letters.charAt(fed);
            fed++;
            is("feed(" + letter + ")", x.feed(letter), m.feed(letter));
            return;
        }
        is("count(3)", x.count(3), m.count(3));
        is("text() of " + letters, x.text(), m.text());
        if (dice.nextBoolean()) {
            int text = some(m.texts.size());
            is("force(" + text + ")", x.force(text), m.force(text));
        }
        letters = written();
        fed = 0;
    }

    private void user() {
        int k = some(6), n = some(10), t = some(2);
        is("user(" + k + ", " + n + ", " + t + ")", x.user(k, n, t), m.user(k, n, t));
    }

    private void call() {
        int a = some(6), b = some(6), c;
        switch (dice.nextInt(26)) {
            case 0, 1 -> {
                a = some(4);
                b = some(a == 1 ? 30 : 6);
                c = some(a == 0 ? 1 << 30 : a == 3 ? 2 : 10);
                c = a == 0 && dice.nextBoolean() ? c & dice.nextInt() & ~(-1 << 30) : c;
                is("set(" + a + ", " + b + ", " + c + ")", x.set(a, b, c), m.set(a, b, c));
            }
            case 2 -> user();
            case 3, 4 -> {
                b = some(7);
                a = some(30);
                is("told(" + a + ", " + b + ")", x.told(a, b), m.told(a, b));
            }
            case 5, 6 -> {
                b = some(30);
                is("has(" + a + ", " + b + ")", x.has(a, b), m.has(a, b));
            }
            case 7 -> is("worth(" + b + ")", x.worth(b), m.worth(b));
            case 8 -> is("share(" + b + ")", x.share(b), m.share(b));
            case 9 -> {
                b = some(2);
                is("mean(" + a + ", " + b + ")", x.mean(a, b), m.mean(a, b));
            }
            case 10 -> {
                b = some(2);
                is("best(" + b + ")", x.best(b), m.best(b));
            }
            case 11 -> {
                if (dice.nextInt(3) == 0) {
                    is("settle()", x.settle(), m.settle());
                    is("told(0, 0)", x.told(0, 0), m.told(0, 0));
                }
            }
            case 12 -> {
                b = some(2);
                is("cut(" + b + ")", x.cut(b), m.cut(b));
            }
            case 13 -> {
                b = some(2);
                is("change(" + b + ")", x.change(b), m.change(b));
            }
            case 14 -> {
                a = some(2);
                b = some(2);
                is("forTown(" + a + ", " + b + ")", x.forTown(a, b), m.forTown(a, b));
            }
            case 15 -> {
                b = some(2);
                is("heaviest(" + b + ")", x.heaviest(b), m.heaviest(b));
            }
            case 16, 17 -> tells();
            default -> more(a, b);
        }
    }

    private void more(int a, int b) {
        int c, d, e;
        switch (dice.nextInt(11)) {
            case 0 -> is("drawn(" + b + ")", x.drawn(b), m.drawn(b));
            case 1 -> {
                c = dice.nextBoolean() ? dice.nextInt() : a;
                d = some(22);
                e = some(2);
                is("chance(" + c + ", " + d + ", " + e + ")", x.chance(c, d, e), m.chance(c, d, e));
            }
            case 2 -> {
                if (dice.nextInt(3) == 0) {
                    is("image()", x.image(), m.image());
                }
            }
            case 3 -> {
                if (dice.nextInt(3) == 0) {
                    is("back()", x.back(), m.back());
                }
            }
            case 4 -> is("count(" + b + ")", x.count(b), m.count(b));
            case 5 -> {
                a = some(4);
                b = some(4) - 1;
                c = some(42);
                is("sheet(" + a + ", " + b + ", " + c + ")", x.sheet(a, b, c), m.sheet(a, b, c));
            }
            case 6, 7 -> {
                a = some(4);
                b = some(dice.nextInt(40) + 1);
                c = dice.nextInt(8) == 0 ? dice.nextInt() : some(12) - 2;
                is("cell(" + a + ", " + b + ", " + c + ")", x.cell(a, b, c), m.cell(a, b, c));
            }
            case 8 -> {
                a = some(4);
                b = some(dice.nextInt(20) + 1);
                c = some(4);
                d = some(dice.nextInt(20) + 1);
                e = some(dice.nextInt(30) + 1);
                is("copy(" + a + ", " + b + ", " + c + ", " + d + ", " + e + ")", x.copy(a, b, c, d, e), m.copy(a, b, c, d, e));
            }
            case 9 -> {
                a = some(4);
                b = dice.nextInt(3) == 0 || a < 0 || a > 3 || m.sheets[a] == null ? some(3) : m.sort(a);
                c = some(20);
                d = some(7);
                is("users(" + a + ", " + b + ", " + c + ", " + d + ")", x.users(a, b, c, d), m.users(a, b, c, d));
            }
            default -> is("taken(" + a + ", " + b + ")", x.taken(a, b), m.taken(a, b));
        }
    }

    /** Films, changes a little, reads back. */
    private void tells() {
        int sheet = some(4), user = some(6), n = some(31);
        is("film(" + sheet + ", " + user + ", " + n + ")", x.film(sheet, user, n), m.film(sheet, user, n));
        switch (dice.nextInt(5)) {
            case 0 -> {
                int share = m.share ^ 1 << dice.nextInt(30);
                is("set(0, 0, " + share + ")", x.set(0, 0, share), m.set(0, 0, share));
            }
            case 1 -> {
                int v = dice.nextInt(10);
                is("set(2, " + user + ", " + v + ")", x.set(2, user, v), m.set(2, user, v));
            }
            case 2 -> {
                int text = some(m.texts.size());
                is("force(" + text + ")", x.force(text), m.force(text));
            }
            default -> {
            }
        }
        for (int what = -1; what <= 6; what++) {
            is("tells(" + sheet + ", " + user + ", " + what + ")", x.tells(sheet, user, what), m.tells(sheet, user, what));
        }
    }

    // ---- texts, mostly good ones

    private String written() {
        StringBuilder s = new StringBuilder();
        s.append(blank()).append("gains ").append(e(3)).append(';').append(blank());
        s.append("mild ").append(e(2)).append(";").append(blank());
        s.append("most ").append(dice.nextBoolean() ? "" + dice.nextInt(32) : e(2)).append(";").append(blank());
        if (dice.nextInt(3) == 0) {
            spoil(s);
        }
        if (s.length() > 160 && dice.nextInt(4) != 0) {
            s.setLength(160);
        }
        return s.toString();
    }

    private String blank() {
        return new String[] {"", "", " ", "\n", "  "}[dice.nextInt(5)];
    }

    private String e(int size) {
        if (size <= 0 || dice.nextInt(4) == 0) {
            return one();
        }
        String gap = dice.nextInt(4) == 0 ? " " : "";
        return switch (dice.nextInt(10)) {
            case 0 -> e(size - 1) + " or " + e(size - 1);
            case 1 -> e(size - 1) + " and " + e(size - 1);
            case 2 -> "not " + e(size - 1);
            case 3 -> "(" + e(size - 1) + "<" + e(size - 1) + ")";
            case 4 -> e(size - 1) + "=" + gap + e(size - 1);
            case 5 -> e(size - 1) + gap + "+" + e(size - 1);
            case 6 -> e(size - 1) + "-" + gap + e(size - 1);
            case 7 -> e(size - 1) + "*" + e(size - 1);
            case 8 -> "-" + e(size - 1);
            default -> "(" + e(size - 1) + ")";
        };
    }

    private String one() {
        String[] names = {"cold", "night", "number", "run", "town", "users"};
        return dice.nextInt(3) == 0 ? "" + dice.nextInt(dice.nextInt(8) == 0 ? 12000 : 12) : names[dice.nextInt(6)];
    }

    private void spoil(StringBuilder s) {
        String[] bits = {"(", ")", "not ", "-", ";", "<", "=", "+", "*", " ", "or", " and ", "x", "\t", "\u00ff", "99999", "cold", "gains", "((", "--", "\n", "most"};
        for (int i = 1 + dice.nextInt(2); i > 0 && s.length() > 0; i--) {
            int at = dice.nextInt(s.length());
            if (dice.nextInt(3) == 0) {
                s.deleteCharAt(at);
            } else if (dice.nextInt(6) == 0) {
                s.setLength(at);
            } else {
                s.insert(at, bits[dice.nextInt(bits.length)]);
            }
        }
    }
}
