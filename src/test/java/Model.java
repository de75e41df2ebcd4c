import java.util.ArrayList;
import java.util.Arrays;
import java.util.List;

/**
 * The document once more, written by other ways than the class goes: a TEXT is
 * judged by a machine with a stack of what is open and valued by splitting its
 * tokens; BEST goes forward and keeps the first of the best beginnings.
 */
final class Model {
    static final class Who {
        int kind, number, town;

        Who(int kind, int number, int town) {
            this.kind = kind;
            this.number = number;
            this.town = town;
        }

        Who copy() {
            return new Who(kind, number, town);
        }
    }

    static final class Fault extends RuntimeException {
        private static final long serialVersionUID = 1;
        final int place;

        Fault(int place) {
            super(null, null, false, false);
            this.place = place;
        }
    }

    record Token(String word, int place) {
    }

    record Image(int[] colds, int share, List<Who> users, int rule) {
    }

    int[] colds = new int[30];
    int share = 0;
    List<Who> users = new ArrayList<>();
    StringBuilder tape = new StringBuilder();
    List<List<List<String>>> texts = new ArrayList<>();
    int rule = 0;
    // null: missing. Of bytes, shorts and ints by the class of the array.
    Object[] sheets = new Object[4];
    Image image = null;

    Model() {
        Arrays.fill(colds, 5);
        texts.add(read("gains cold ; mild 1 ; most 9 ;"));
    }

    // ---- texts

    static List<Token> tokens(String s) {
        List<Token> all = new ArrayList<>();
        int i = 0;
        while (i < s.length()) {
            String rest = s.substring(i);
            String word = rest.replaceFirst("(?s)^([a-z]+|[0-9]+|.).*", "$1");
            if (!word.equals(" ") && !word.equals("\n")) {
                all.add(new Token(word, i));
            }
            i += word.length();
        }
        return all;
    }

    static boolean isName(String w) {
        return List.of("cold", "night", "number", "run", "town", "users").contains(w);
    }

    static boolean isOperand(String w) {
        return isName(w) || w.matches("[0-9]{1,4}");
    }

    /** The three parts, or a Fault. */
    static List<List<String>> read(String s) {
        List<List<String>> parts = new ArrayList<>();
        List<Token> all = tokens(s);
        int at = 0;
        for (String key : List.of("gains", "mild", "most")) {
            if (at >= all.size()) {
                throw new Fault(s.length());
            }
            if (!all.get(at).word().equals(key)) {
                throw new Fault(all.get(at).place());
            }
            at++;
            int from = at;
            at = judge(all, at, s.length());
            List<String> part = new ArrayList<>();
            for (int i = from; i < at; i++) {
                part.add(all.get(i).word());
            }
            parts.add(part);
            at++;
        }
        if (at < all.size()) {
            throw new Fault(all.get(at).place());
        }
        return parts;
    }

    /** Where the E that begins there has its ';'. */
    private static int judge(List<Token> all, int from, int size) {
        StringBuilder open = new StringBuilder();
        boolean wants = true;
        boolean mayNot = true;
        boolean compared = false;
        for (int i = from; i < all.size(); i++) {
            String w = all.get(i).word();
            int place = all.get(i).place();
            if (wants) {
                if (isOperand(w)) {
                    wants = false;
                    mayNot = false;
                    close(open, "-");
                } else if (w.equals("(") || w.equals("-") || w.equals("not") && mayNot) {
                    if (open.length() >= 5) {
                        throw new Fault(place);
                    }
                    // A '[' remembers that a comparison stands around it.
                    open.append(w.equals("(") ? compared ? '[' : '(' : w.charAt(0));
                    mayNot = !w.equals("-");
                    if (w.equals("(")) {
                        compared = false;
                    }
                } else {
                    throw new Fault(place);
                }
                continue;
            }
            if (w.equals("+") || w.equals("-") || w.equals("*")) {
                wants = true;
            } else if ((w.equals("<") || w.equals("=")) && !compared) {
                wants = true;
                compared = true;
            } else if (w.equals("and") || w.equals("or")) {
                close(open, "n");
                wants = true;
                mayNot = true;
                compared = false;
            } else if (w.equals(")")) {
                close(open, "n");
                if (open.length() == 0) {
                    throw new Fault(place);
                }
                compared = open.charAt(open.length() - 1) == '[';
                open.setLength(open.length() - 1);
                close(open, "-");
            } else if (w.equals(";")) {
                close(open, "n");
                if (open.length() > 0) {
                    throw new Fault(place);
                }
                return i;
            } else {
                throw new Fault(place);
            }
        }
        throw new Fault(size);
    }

    private static void close(StringBuilder open, String what) {
        while (open.length() > 0 && open.charAt(open.length() - 1) == what.charAt(0)) {
            open.setLength(open.length() - 1);
        }
    }

    /** Places of those words outside of all ( ), signs only where they join two. */
    private static int last(List<String> e, String... words) {
        int depth = 0;
        int found = -1;
        for (int i = 0; i < e.size(); i++) {
            String w = e.get(i);
            depth += w.equals("(") ? 1 : w.equals(")") ? -1 : 0;
            boolean joins = i > 0 && (isOperand(e.get(i - 1)) || e.get(i - 1).equals(")"));
            if (depth == 0 && joins && List.of(words).contains(w)) {
                found = i;
            }
        }
        return found;
    }

    static int value(List<String> e, int[] names) {
        for (String[] level : new String[][] {{"or"}, {"and"}, {"not"}, {"<", "="}, {"+", "-"}, {"*"}}) {
            if (level[0].equals("not")) {
                if (e.get(0).equals("not")) {
                    return value(e.subList(1, e.size()), names) == 0 ? 1 : 0;
                }
                continue;
            }
            int i = last(e, level);
            if (i >= 0) {
                int a = value(e.subList(0, i), names);
                int b = value(e.subList(i + 1, e.size()), names);
                return switch (e.get(i)) {
                    case "or" -> a != 0 || b != 0 ? 1 : 0;
                    case "and" -> a != 0 && b != 0 ? 1 : 0;
                    case "<" -> a < b ? 1 : 0;
                    case "=" -> a == b ? 1 : 0;
                    case "+" -> a + b;
                    case "-" -> a - b;
                    default -> a * b;
                };
            }
        }
        String w = e.get(0);
        if (w.equals("-")) {
            return -value(e.subList(1, e.size()), names);
        }
        if (w.equals("(")) {
            return value(e.subList(1, e.size() - 1), names);
        }
        int name = List.of("cold", "night", "number", "run", "town", "users").indexOf(w);
        return name >= 0 ? names[name] : Integer.parseInt(w);
    }

    int valueOf(int text, int part, int... names) {
        return value(texts.get(text).get(part), names);
    }

    // ---- what they have

    static int town(int s, int night) {
        return (s & 1 << night) != 0 ? 1 : 0;
    }

    static int run(int s, int night) {
        int n = 1;
        while (night - n >= 0 && town(s, night - n) == town(s, night)) {
            n++;
        }
        return n;
    }

    int most(int night, int town) {
        int v = valueOf(rule, 2, colds[night], night, 0, 0, town, users.size());
        return v < 1 ? 1 : v > 30 ? 30 : v;
    }

    int has(Who u, int text, int[] c, int night, int town, int run) {
        int v = valueOf(text, u.town == town ? 0 : 1, c[night], night, u.number, run, town, users.size());
        v = v < -99 ? -99 : v > 99 ? 99 : v;
        if (u.town == town) {
            int sport = run > 1 ? v + v : v;
            int sick = c[night] >= 5 ? 0 - v : 0;
            return new int[] {v, sport, sick, sport + (c[night] >= 7 ? u.number : 0), sick + sick, 0 - c[night]}[u.kind];
        }
        return new int[] {v, 0, v, 0 - u.number, v + u.number, v + 2}[u.kind];
    }

    int hasBy(Who u, int text, int[] c, int s, int night) {
        return has(u, text, c, night, town(s, night), run(s, night));
    }

    int sum(Who u, int[] c, int s) {
        int sum = 0;
        for (int i = 29; i >= 0; i--) {
            sum += hasBy(u, rule, c, s, i);
        }
        return sum;
    }

    int worth(int what, int[] c, int s) {
        return users.stream().filter(u -> what == 2 || u.town == what).mapToInt(u -> sum(u, c, s)).sum();
    }

    int bestShare() {
        int[][] worth = new int[2][31];
        long[][] first = new long[2][31];
        for (long[] row : first) {
            Arrays.fill(row, -1);
        }
        for (int i = 0; i < 30; i++) {
            int[][] thenWorth = new int[2][31];
            // Beginnings are kept with NIGHT 0 as the highest bit, so that the lowest is the first.
            long[][] then = new long[2][31];
            for (int t = 0; t < 2; t++) {
                Arrays.fill(then[t], -1);
                for (int r = 1; r <= Math.min(i + 1, most(i, t)); r++) {
                    int had = 0;
                    for (Who u : users) {
                        had += has(u, rule, colds, i, t, r);
                    }
                    if (i == 0) {
                        thenWorth[t][r] = had;
                        then[t][r] = t;
                    } else if (r > 1) {
                        if (first[t][r - 1] >= 0) {
                            thenWorth[t][r] = worth[t][r - 1] + had;
                            then[t][r] = first[t][r - 1] * 2 + t;
                        }
                    } else {
                        for (int p = 1; p <= 30; p++) {
                            long way = first[1 - t][p] * 2 + t;
                            int w = worth[1 - t][p] + had;
                            if (first[1 - t][p] >= 0 && (then[t][1] < 0 || w > thenWorth[t][1] || w == thenWorth[t][1] && way < then[t][1])) {
                                thenWorth[t][1] = w;
                                then[t][1] = way;
                            }
                        }
                    }
                }
            }
            worth = thenWorth;
            first = then;
        }
        long found = -1;
        int most = 0;
        for (int t = 0; t < 2; t++) {
            for (int r = 1; r <= 30; r++) {
                if (first[t][r] >= 0 && (found < 0 || worth[t][r] > most || worth[t][r] == most && first[t][r] < found)) {
                    found = first[t][r];
                    most = worth[t][r];
                }
            }
        }
        return Integer.reverse((int) found) >>> 2;
    }

    int[] draw(int seed) {
        int[] c = new int[30];
        int z = seed;
        for (int i = 0; i < 30; i++) {
            z = z * 1103515245 + 12345;
            c[i] = (z >>> 9) % 10;
        }
        return c;
    }

    static long lowest(int above, int below, int part) {
        int by = java.math.BigInteger.valueOf(above).gcd(java.math.BigInteger.valueOf(below)).intValue();
        return (part == 0 ? above : below) / by;
    }

    // ---- calls

    boolean isUser(int u) {
        return u >= 0 && u < users.size();
    }

    static boolean in(int v, int low, int high) {
        return v >= low && v <= high;
    }

    long set(int what, int of, int v) {
        long was = told(of, what);
        if (!in(what, 0, 3) || was == -2 || !in(v, 0, new int[] {(1 << 30) - 1, 9, 9, 1}[what])) {
            return -2;
        }
        if (what == 0) share = v;
        if (what == 1) colds[of] = v;
        if (what == 2) users.get(of).number = v;
        if (what == 3) users.get(of).town = v;
        return was;
    }

    long user(int kind, int number, int town) {
        if (!in(kind, 0, 5) || !in(number, 0, 9) || !in(town, 0, 1)) {
            return -2;
        }
        if (users.size() == 6) {
            return -4;
        }
        users.add(new Who(kind, number, town));
        return users.size() - 1;
    }

    long told(int of, int what) {
        boolean night = in(of, 0, 29);
        return switch (what) {
            case 0 -> share;
            case 1 -> night ? colds[of] : -2;
            case 2 -> isUser(of) ? users.get(of).number : -2;
            case 3 -> isUser(of) ? users.get(of).town : -2;
            case 4 -> isUser(of) ? users.get(of).kind : -2;
            case 5 -> night ? run(share, of) : -2;
            case 6 -> night ? most(of, town(share, of)) : -2;
            default -> -2;
        };
    }

    long feed(int letter) {
        if (!in(letter, 0, 255)) {
            return -2;
        }
        if (tape.length() == 160) {
            return -4;
        }
        return tape.append((char) letter).length();
    }

    long text() {
        if (texts.size() == 6) {
            return -4;
        }
        String s = tape.toString();
        tape.setLength(0);
        try {
            texts.add(read(s));
            return texts.size() - 1;
        } catch (Fault f) {
            return -100 - f.place;
        }
    }

    long force(int text) {
        if (!in(text, 0, texts.size() - 1)) {
            return -2;
        }
        int was = rule;
        rule = text;
        return was;
    }

    long has(int user, int night) {
        return isUser(user) && in(night, 0, 29) ? hasBy(users.get(user), rule, colds, share, night) : -100000;
    }

    long worth(int what) {
        return in(what, 0, 2) ? worth(what, colds, share) : -1000000;
    }

    long share(int what) {
        int first = -1;
        int longest = 0;
        for (int i = 29; i >= 0; i--) {
            longest = Math.max(longest, run(share, i));
            if (run(share, i) > most(i, town(share, i))) {
                first = i;
            }
        }
        return switch (what) {
            case 0 -> first < 0 ? 1 : 0;
            case 1 -> first;
            case 2 -> longest;
            case 3 -> Integer.bitCount(share);
            default -> -2;
        };
    }

    long mean(int user, int part) {
        return isUser(user) && in(part, 0, 1) ? lowest(sum(users.get(user), colds, share), 30, part) : OneWinter.NO;
    }

    long best(int what) {
        return what == 0 ? bestShare() : what == 1 ? worth(2, colds, bestShare()) : -1000000;
    }

    long settle() {
        share = bestShare();
        return worth(2);
    }

    long cut(int what) {
        int found = -1;
        int least = 0;
        for (int k = 0; k < 62; k++) {
            int s = 0;
            for (int i = 0; i < 30; i++) {
                int town = i < k / 2 ? k % 2 : 1 - k % 2;
                s |= town << i;
            }
            int apart = Math.abs(worth(0, colds, s) - worth(1, colds, s));
            if (found < 0 || apart < least) {
                least = apart;
                found = k / 2 * 10 + k % 2;
            }
        }
        return what == 0 ? found : what == 1 ? least : -2;
    }

    long forTown(int town, int what) {
        return in(town, 0, 1) ? flip(town, what) : -1000000;
    }

    long change(int what) {
        return flip(2, what);
    }

    private long flip(int whose, int what) {
        int most = worth(whose, colds, share);
        int found = -1;
        for (int i = 0; i < 30; i++) {
            int then = worth(whose, colds, share ^ 1 << i);
            if (then > most) {
                most = then;
                found = i;
            }
        }
        return what == 0 ? found : what == 1 ? most : -1000000;
    }

    long heaviest(int what) {
        int found = -1;
        for (int i = 0; i < users.size(); i++) {
            if (found < 0 || Math.abs(sum(users.get(i), colds, share)) > Math.abs(sum(users.get(found), colds, share))) {
                found = i;
            }
        }
        return what == 0 ? found : what == 1 ? found < 0 ? 0 : sum(users.get(found), colds, share) : -1000000;
    }

    int size(int sheet) {
        return java.lang.reflect.Array.getLength(sheets[sheet]);
    }

    int item(int sheet, int i) {
        return java.lang.reflect.Array.getInt(sheets[sheet], i);
    }

    int sort(int sheet) {
        return sheets[sheet] instanceof byte[] ? 0 : sheets[sheet] instanceof short[] ? 1 : 2;
    }

    private int otherwise(int sheet, Who u, int text, int s) {
        for (int i = 0; i < size(sheet); i++) {
            if (item(sheet, i) != hasBy(u, text, colds, s, i)) {
                return i;
            }
        }
        return -1;
    }

    long tells(int sheet, int user, int what) {
        if (!in(sheet, 0, 3) || !isUser(user) || !in(what, 0, 5)) {
            return -2;
        }
        if (sheets[sheet] == null) {
            return -11;
        }
        if (size(sheet) > 30) {
            return -2;
        }
        Who u = users.get(user);
        if (what == 0) {
            return otherwise(sheet, u, rule, share);
        }
        int bits = 0;
        int many = new int[] {0, 6, 10, 2, texts.size(), size(sheet)}[what];
        for (int i = 0; i < many; i++) {
            Who w = u.copy();
            if (what == 1) w.kind = i;
            if (what == 2) w.number = i;
            if (what == 3) w.town = i;
            if (otherwise(sheet, w, what == 4 ? i : rule, what == 5 ? share ^ 1 << i : share) < 0) {
                bits |= 1 << i;
            }
        }
        return bits;
    }

    long film(int sheet, int user, int n) {
        if (!in(sheet, 0, 3) || !isUser(user) || !in(n, 0, 30)) {
            return -2;
        }
        short[] row = new short[n];
        for (int i = 0; i < n; i++) {
            row[i] = (short) has(user, i);
        }
        sheets[sheet] = row;
        return n;
    }

    long drawn(int seed) {
        return worth(2, draw(seed), share);
    }

    long chance(int seed, int n, int part) {
        if (!in(n, 1, 20) || !in(part, 0, 1)) {
            return OneWinter.NO;
        }
        int more = 0;
        for (int i = 0; i < n; i++) {
            more += worth(0, draw(seed + i), share) > worth(1, draw(seed + i), share) ? 1 : 0;
        }
        return lowest(more, n, part);
    }

    long image() {
        image = new Image(colds.clone(), share, copies(users), rule);
        return users.size();
    }

    long back() {
        if (image == null) {
            return -3;
        }
        colds = image.colds().clone();
        share = image.share();
        users = copies(image.users());
        rule = image.rule();
        return users.size();
    }

    private static List<Who> copies(List<Who> of) {
        List<Who> all = new ArrayList<>();
        for (Who w : of) {
            all.add(w.copy());
        }
        return all;
    }

    long count(int what) {
        return switch (what) {
            case 0 -> users.size();
            case 1 -> users.stream().filter(u -> u.town == 1).count();
            case 2 -> texts.size();
            case 3 -> tape.length();
            case 4 -> rule;
            case 5 -> Arrays.stream(colds).sum();
            default -> -2;
        };
    }

    long sheet(int sheet, int sort, int n) {
        if (!in(sheet, 0, 3) || !in(sort, -1, 2) || sort >= 0 && n > 40) {
            return -2;
        }
        if (sort >= 0 && n < 0) {
            return -14;
        }
        sheets[sheet] = sort < 0 ? null : sort == 0 ? new byte[n] : sort == 1 ? new short[n] : new int[n];
        return 1;
    }

    long cell(int sheet, int i, int v) {
        if (!in(sheet, 0, 3)) {
            return -2;
        }
        if (sheets[sheet] == null) {
            return -11;
        }
        if (!in(i, 0, size(sheet) - 1)) {
            return -12;
        }
        if (sheets[sheet] instanceof byte[] b) b[i] = (byte) v;
        if (sheets[sheet] instanceof short[] b) b[i] = (short) v;
        if (sheets[sheet] instanceof int[] b) b[i] = v;
        return 1;
    }

    long copy(int sheet, int i, int other, int j, int n) {
        if (!in(sheet, 0, 3) || !in(other, 0, 3)) {
            return -2;
        }
        try {
            System.arraycopy(sheets[sheet], i, sheets[other], j, n);
            return n;
        } catch (NullPointerException e) {
            return -11;
        } catch (ArrayStoreException e) {
            return -13;
        } catch (IndexOutOfBoundsException e) {
            return -12;
        }
    }

    long users(int sheet, int sort, int from, int n) {
        if (!in(sheet, 0, 3) || !in(sort, 0, 2) || !in(n, 0, 6)) {
            return -2;
        }
        if (sheets[sheet] != null && sort(sheet) != sort) {
            return -13;
        }
        if (sheets[sheet] == null) {
            return -11;
        }
        int before = users.size();
        for (int k = 0; k < n; k++) {
            long at = (long) from + 3 * k;
            if (at < 0 || at + 2 >= size(sheet)) {
                return -12;
            }
            user(item(sheet, (int) at), item(sheet, (int) at + 1), item(sheet, (int) at + 2));
        }
        return users.size() - before;
    }

    long taken(int user, int k) {
        if (!in(k, 0, 5)) {
            return -2;
        }
        if (!isUser(user)) {
            return -11;
        }
        String under = new String[] {"0", "01", "02", "013", "024", "05"}[users.get(user).kind];
        return under.contains("" + k) ? users.get(user).number : -13;
    }
}
