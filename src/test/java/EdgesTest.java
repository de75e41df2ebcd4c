/** The edges that the terms name, but for TEXTS (TextEdgesTest) and refusals (RefusalsTest). */
public final class EdgesTest {
    private static final Due DUE = new Due();
    private static final int ALL_NIGHTS = Winters.ALL_NIGHTS, LOW = Winters.LOW, HIGH = Winters.HIGH;
    private static final int USER = 0, SPORT = 1, SICK = 2, SLEIGH = 3, OLD = 4, SHIP = 5;
    private static final int BYTES = 0, SHORTS = 1, INTS = 2;
    private static final int ALTERNATE = 0b101010101010101010101010101010, UNLAWFUL = LOW;

    public static void main(String[] args) {
        nights();
        shareBits();
        runs();
        ofOwnTown();
        ofOtherTown();
        sixUsers();
        lawful();
        means();
        bestOfLikeOnes();
        bestByMost();
        bestAgainstAll();
        cuts();
        changes();
        forTowns();
        heaviest();
        toldNone();
        toldAll();
        toldNights();
        toldTexts();
        filmed();
        drawn();
        chances();
        images();
        sheetSizes();
        lowestBits();
        copiesWithin();
        copiesAtTheEnd();
        usersAtTheEnd();
        kindsUnderKinds();
        DUE.end("EdgesTest");
    }

    // ---- terms 1

    private static void nights() {
        DUE.about("NIGHTS 0 .. 29, COLD 0 .. 9, 5 at first");
        OneWinter x = Winters.with(SHIP, 0, 0);
        for (int night : new int[] {0, 1, 28, 29}) {
            DUE.is("told(" + night + ", 1)", x.told(night, 1), 5);
            DUE.is("has(0, " + night + ")", x.has(0, night), -5);
            DUE.is("cold 0", x.set(1, night, 0), 5);
            DUE.is("cold together", x.count(5), 145);
            DUE.is("of cold 0", x.has(0, night), 0);
            DUE.is("cold 9", x.set(1, night, 9), 0);
            DUE.is("cold together", x.count(5), 154);
            DUE.is("of cold 9", x.has(0, night), -9);
            DUE.is("cold 5", x.set(1, night, 5), 9);
        }
        for (int i = 0; i < 30; i++) {
            x.set(1, i, 9);
        }
        DUE.is("all as cold as can be", x.count(5), 270);
        DUE.is("all as cold as can be", x.worth(0), -270);
        for (int i = 0; i < 30; i++) {
            x.set(1, i, 0);
        }
        DUE.is("none is cold", x.count(5), 0);
        DUE.is("none is cold", x.worth(0), 0);
    }

    private static void shareBits() {
        DUE.about("NIGHTS (bits) that are TOWN 1's");
        OneWinter x = Winters.ruled("gains 7;mild 3;most 30;", USER, 0, 0, USER, 0, 1);
        int was = 0;
        for (int share : new int[] {1, 1 << 29, 1 << 29 | 1, ALL_NIGHTS, ALL_NIGHTS - 1, ALL_NIGHTS >> 1}) {
            DUE.is("set", x.set(0, 0, share), was);
            was = share;
            DUE.is("told", x.told(0, 0), share);
            int many = Integer.bitCount(share);
            for (int night : new int[] {0, 1, 28, 29}) {
                boolean one = (share >> night & 1) == 1;
                DUE.is("town 0 has of night " + night, x.has(0, night), one ? 3 : 7);
                DUE.is("town 1 has of night " + night, x.has(1, night), one ? 7 : 3);
            }
            DUE.is("how many are town 1's", x.share(3), many);
            DUE.is("worth of town 0", x.worth(0), 3 * many + 7 * (30 - many));
            DUE.is("worth of town 1", x.worth(1), 7 * many + 3 * (30 - many));
            DUE.is("all", x.worth(2), 300);
        }
    }

    private static void runs() {
        DUE.about("RUN of a NIGHT");
        OneWinter x = Winters.ruled("gains run;mild run+40;most 30;", USER, 0, 0, USER, 0, 1);
        for (int i = 0; i < 30; i++) {
            DUE.is("town 0 has all", x.told(i, 5), i + 1);
            DUE.is("town 0 has all", x.has(0, i), i + 1);
            DUE.is("of the other town, too", x.has(1, i), i + 41);
        }
        x.set(0, 0, ALL_NIGHTS);
        for (int i = 0; i < 30; i++) {
            DUE.is("town 1 has all", x.told(i, 5), i + 1);
            DUE.is("of the other town, too", x.has(0, i), i + 41);
        }
        x.set(0, 0, 1);
        DUE.is("the first night", x.told(0, 5), 1);
        DUE.is("the second", x.told(1, 5), 1);
        DUE.is("the last", x.told(29, 5), 29);
        x.set(0, 0, 1 << 29);
        DUE.is("the last", x.told(29, 5), 1);
        DUE.is("the one before", x.told(28, 5), 29);
        x.set(0, 0, ALTERNATE);
        for (int i = 0; i < 30; i++) {
            DUE.is("by turns", x.told(i, 5), 1);
        }
        DUE.is("longest", x.share(2), 1);
    }

    private static void ofOwnTown() {
        DUE.about("HAS of a NIGHT of one's own TOWN");
        int[][] due = {
            // Of COLD 4, 5, 6, 7 with RUN 1, then of COLD 4, 5, 6, 7 with RUN 2 and of COLD 0, 9 with RUN 3.
            {10, 10, 10, 10, 10, 10, 10, 10, 10, 10},
            {10, 10, 10, 10, 20, 20, 20, 20, 20, 20},
            {0, -10, -10, -10, 0, -10, -10, -10, 0, -10},
            {10, 10, 10, 19, 20, 20, 20, 29, 20, 29},
            {0, -20, -20, -20, 0, -20, -20, -20, 0, -20},
            {-4, -5, -6, -7, -4, -5, -6, -7, 0, -9}};
        for (int town = 0; town < 2; town++) {
            for (int kind = USER; kind <= SHIP; kind++) {
                OneWinter x = Winters.ruled("gains 10;mild 1;most 30;", kind, 9, town);
                for (int k = 0; k < 10; k++) {
                    int run = k < 4 ? 1 : k < 8 ? 2 : 3;
                    int cold = k < 8 ? 4 + k % 4 : k == 8 ? 0 : 9;
                    // The NIGHT is the last; NIGHTS ahead of its RUN are the other TOWN's.
                    int ones = ALL_NIGHTS & -1 << 30 - run;
                    x.set(0, 0, town == 1 ? ones : ALL_NIGHTS - ones);
                    x.set(1, 29, cold);
                    DUE.is("kind " + kind + ", cold " + cold + ", run " + run, x.has(0, 29), due[kind][k]);
                }
                x.set(1, 29, 9);
                x.set(2, 0, 0);
                DUE.is("kind " + kind + ", number 0", x.has(0, 29), due[kind][9] - (kind == SLEIGH ? 9 : 0));
            }
        }
    }

    private static void ofOtherTown() {
        DUE.about("HAS of a NIGHT of the other TOWN");
        int[] due = {10, 0, 10, -9, 19, 12};
        for (int town = 0; town < 2; town++) {
            for (int kind = USER; kind <= SHIP; kind++) {
                OneWinter x = Winters.ruled("gains 1;mild 10;most 30;", kind, 9, town);
                x.set(0, 0, town == 1 ? 0 : ALL_NIGHTS);
                for (int cold : new int[] {0, 4, 5, 6, 7, 9}) {
                    x.set(1, 0, cold);
                    x.set(1, 29, cold);
                    DUE.is("kind " + kind + ", cold " + cold, x.has(0, 0), due[kind]);
                    DUE.is("kind " + kind + ", cold " + cold + ", run 30", x.has(0, 29), due[kind]);
                }
                x.set(2, 0, 0);
                int by = kind == SLEIGH ? 9 : kind == OLD ? -9 : 0;
                DUE.is("kind " + kind + ", number 0", x.has(0, 0), due[kind] + by);
            }
        }
    }

    private static void sixUsers() {
        DUE.about("USERS (6 at most, numbered from 0)");
        OneWinter x = Winters.ruled("gains 1;mild 0;most 30;", USER, 0, 0, USER, 0, 1, USER, 0, 0, USER, 0, 1, USER, 0, 0);
        DUE.is("the sixth", x.user(SHIP, 9, 1), 5);
        DUE.is("a seventh", x.user(SHIP, 9, 1), -4);
        DUE.is("number of the sixth", x.set(2, 5, 0), 9);
        DUE.is("town of the sixth", x.set(3, 5, 0), 1);
        DUE.is("kind of the sixth", x.told(5, 4), SHIP);
        DUE.is("the sixth has", x.has(5, 29), -5);
        DUE.is("all six count", x.worth(0), 3 * 30 - 150);
        DUE.is("all six count", x.worth(2), 3 * 30 - 150);
        DUE.is("of town 1", x.count(1), 2);
        DUE.is("the sixth is heaviest", x.heaviest(0), 5);
        DUE.is("its mean", x.mean(5, 0), -5);
        DUE.is("taken", x.taken(5, USER), 0);
        DUE.is("film", x.film(0, 5, 1), 1);
        DUE.is("tells", x.tells(0, 5, 0), -1);
        DUE.is("image", x.image(), 6);
        DUE.is("back", x.back(), 6);
        DUE.is("there is no seventh", x.told(6, 2), -2);
        DUE.is("there is no seventh", x.has(6, 0), -100000);
    }

    // ---- terms 2

    private static void lawful() {
        DUE.about("LAWFUL, if RUN of no NIGHT is more than most");
        for (int most : new int[] {1, 2, 9, 29}) {
            OneWinter x = Winters.ruled("gains 1;mild 1;most " + most + ";");
            int by = 0;
            for (int i = most; i < 30; i += most + 1) {
                by |= 1 << i;
            }
            x.set(0, 0, by);
            DUE.is("as many as most", x.share(0), 1);
            DUE.is("as many as most", x.share(1), -1);
            DUE.is("as many as most", x.share(2), most);
            x.set(0, 0, by ^ 1 << most);
            DUE.is("one more than most", x.share(0), 0);
            DUE.is("one more than most", x.share(1), most);
        }
        OneWinter x = Winters.ruled("gains 1;mild 1;most 30-(night=29);");
        DUE.is("the last is too much", x.share(0), 0);
        DUE.is("the last is too much", x.share(1), 29);
        x.set(0, 0, 1);
        DUE.is("one less", x.share(0), 1);
        Winters.rule(x, "gains 1;mild 1;most 5+town*25;");
        DUE.is("most of town 0", x.share(1), 6);
        x.set(0, 0, ALL_NIGHTS);
        DUE.is("most of town 1", x.share(1), -1);
        Winters.rule(x, "gains 1;mild 1;most cold;");
        DUE.is("most by cold", x.share(1), 5);
        x.set(1, 5, 9);
        DUE.is("most by cold", x.share(1), 6);
        x.set(1, 0, 0);
        DUE.is("the bound is 1", x.share(1), 6);
        x.set(1, 1, 1);
        DUE.is("the second", x.share(1), 1);
        Winters.rule(x, "gains 1;mild 1;most users+28;");
        x.set(0, 0, 0);
        DUE.is("no users", x.share(1), 28);
        x.user(USER, 0, 0);
        DUE.is("one user", x.share(1), 29);
        x.user(USER, 0, 0);
        DUE.is("two users", x.share(1), -1);
    }

    private static void means() {
        DUE.about("MEAN in lowest terms");
        int[][] due = {{0, 0, 1}, {1, 1, 30}, {2, 1, 15}, {3, 1, 10}, {5, 1, 6}, {6, 1, 5}, {7, 7, 30}, {10, 1, 3}, {15, 1, 2}, {29, 29, 30}, {30, 1, 1}};
        for (int[] d : due) {
            OneWinter x = Winters.ruled("gains night<" + d[0] + ";mild 0-(night<" + d[0] + ");most 1;", USER, 0, 0, USER, 0, 1);
            DUE.is("above of " + d[0], x.mean(0, 0), d[1]);
            DUE.is("below of " + d[0], x.mean(0, 1), d[2]);
            DUE.is("above of -" + d[0], x.mean(1, 0), -d[1]);
            DUE.is("below of -" + d[0], x.mean(1, 1), d[2]);
        }
    }

    private static void bestOfLikeOnes() {
        DUE.about("BEST: of like ones the first, NIGHT by NIGHT, TOWN 0 ahead of TOWN 1");
        OneWinter none = new OneWinter();
        DUE.is("no users", none.best(0), 1 << 9 | 1 << 19 | 1 << 29);
        DUE.is("no users", none.best(1), 0);
        OneWinter x = Winters.ruled("gains 1;mild 1;most 30;", USER, 0, 0, USER, 0, 1);
        DUE.is("all are like", x.best(0), 0);
        Winters.rule(x, "gains 1;mild 1;most 1;");
        DUE.is("one of two", x.best(0), ALTERNATE);
        Winters.rule(x, "gains 1;mild 1;most 30-29*(27<night);");
        DUE.is("as late as can be", x.best(0), 1 << 28);
        Winters.rule(x, "gains 1;mild 1;most 29;");
        DUE.is("as late as can be", x.best(0), 1 << 29);
        Winters.rule(x, "gains 1;mild 1;most 30-28*(1-town);");
        DUE.is("town 1 for one night at a time", x.best(0), 0b100100100100100100100100100100);
        OneWinter y = Winters.ruled("gains (night=0)=town;mild 0;most 15;", USER, 0, 0, USER, 0, 1);
        DUE.is("one night in vain, as late as can be", y.best(0), 1 | 1 << 16);
        DUE.is("one night in vain", y.best(1), 29);
        OneWinter z = Winters.ruled("gains (night=0)*town*8+(night=29)*(1-town)*8;mild 0;most 15;", USER, 0, 0, USER, 0, 1);
        DUE.is("the first and the last", z.best(0), 1 | 1 << 16);
        DUE.is("the first and the last", z.best(1), 16);
    }

    private static void bestByMost() {
        DUE.about("BEST: of all LAWFUL SHARES that of most ALL");
        OneWinter x = Winters.ruled("gains 5;mild 0;most 30;", USER, 0, 1);
        DUE.is("all are town 1's", x.best(0), ALL_NIGHTS);
        DUE.is("all are town 1's", x.best(1), 150);
        DUE.is("settle", x.settle(), 150);
        DUE.is("lawful", x.share(0), 1);
        Winters.rule(x, "gains 5;mild 0;most 29;");
        DUE.is("but the first", x.best(0), ALL_NIGHTS - 1);
        DUE.is("but the first", x.best(1), 145);
        DUE.is("settle", x.settle(), 145);
        DUE.is("the share", x.told(0, 0), ALL_NIGHTS - 1);
        Winters.rule(x, "gains 5;mild 0;most 30-(night=28)*29;");
        DUE.is("one at once by night 28", x.best(0), ALL_NIGHTS - (1 << 27));
        x.set(0, 0, 0);
        DUE.is("what is now does not matter", x.best(0), ALL_NIGHTS - (1 << 27));
        OneWinter y = Winters.ruled("gains -9;mild -7;most 30;", USER, 0, 0, USER, 0, 0, SPORT, 0, 0);
        DUE.is("all are below 0", y.best(0), ALL_NIGHTS);
        DUE.is("all are below 0", y.best(1), -420);
        OneWinter z = Winters.ruled("gains 99;mild -99;most 1;", SPORT, 9, 0, SLEIGH, 9, 0, SPORT, 9, 0, SPORT, 9, 0, OLD, 9, 1, OLD, 9, 1);
        DUE.is("by turns", z.best(0), ALTERNATE);
        DUE.is("much below 0", z.best(1), 15 * (4 * 99 - 2 * 90) + 15 * (-2 * 198 - 9));
    }

    private interface E {
        int of(int cold, int night, int run, int town);
    }

    private record Rule(String text, E gains, E mild, E most) {
    }

    // From NIGHT 12 on most is 1, so that a SHARE goes on by turns and 4096 are all.
    private static void bestAgainstAll() {
        DUE.about("BEST against all SHARES");
        Rule[] rules = {
            new Rule("gains cold-run;mild run-town*2;most (night<12)*(3+(night<9)-(night=5));",
                (c, n, r, t) -> c - r, (c, n, r, t) -> r - t * 2, (c, n, r, t) -> n < 9 ? n == 5 ? 3 : 4 : n < 12 ? 3 : 1),
            new Rule("gains 4-night*town;mild cold-5;most (night<12)*(2+town*2+night-2*(night=7));",
                (c, n, r, t) -> 4 - n * t, (c, n, r, t) -> c - 5, (c, n, r, t) -> n < 12 ? 2 + t * 2 + n - (n == 7 ? 2 : 0) : 1),
            new Rule("gains run*run-7;mild 1;most (night<12)*cold;",
                (c, n, r, t) -> r * r - 7, (c, n, r, t) -> 1, (c, n, r, t) -> n < 12 && c > 0 ? c : 1),
            new Rule("gains 3;mild 3;most (night<12)*12;", (c, n, r, t) -> 3, (c, n, r, t) -> 3, (c, n, r, t) -> n < 12 ? 12 : 1)};
        int[][] crowds = {{USER, 0, 0, USER, 0, 1}, {SPORT, 2, 0, SLEIGH, 6, 1, OLD, 3, 1, USER, 0, 0}, {SICK, 0, 0, SHIP, 0, 1, SPORT, 9, 1}};
        for (Rule rule : rules) {
            for (int[] crowd : crowds) {
                OneWinter x = Winters.ruled(rule.text, crowd);
                for (int i = 0; i < 30; i++) {
                    x.set(1, i, i * 7 % 10);
                }
                int due = firstOfAll(rule, crowd);
                DUE.is("best(0) by " + rule.text, x.best(0), due);
                DUE.is("best(1) by " + rule.text, x.best(1), allBy(rule, crowd, due));
                DUE.is("settle() by " + rule.text, x.settle(), allBy(rule, crowd, due));
            }
        }
    }

    private static int firstOfAll(Rule rule, int[] crowd) {
        int most = UNLAWFUL;
        int found = -1;
        for (int k = 0; k < 1 << 12; k++) {
            // As k grows the SHARES come in their order: NIGHT 0 is its highest bit.
            int share = Integer.reverse(k) >>> 20;
            for (int i = 12; i < 30; i++) {
                share |= (~share >> i - 1 & 1) << i;
            }
            int all = allBy(rule, crowd, share);
            if (all > most) {
                most = all;
                found = share;
            }
        }
        return found;
    }

    private static int allBy(Rule rule, int[] crowd, int share) {
        int sum = 0;
        int run = 0;
        for (int i = 0; i < 30; i++) {
            int town = share >> i & 1;
            int cold = i * 7 % 10;
            run = i > 0 && (share >> i - 1 & 1) == town ? run + 1 : 1;
            if (run > rule.most.of(cold, i, run, town)) {
                return UNLAWFUL;
            }
            for (int u = 0; u < crowd.length; u += 3) {
                boolean own = crowd[u + 2] == town;
                int v = (own ? rule.gains : rule.mild).of(cold, i, run, town);
                v = Math.max(-99, Math.min(99, v));
                int sport = run > 1 ? 2 * v : v;
                int sick = cold > 4 ? -v : 0;
                int number = crowd[u + 1];
                int[] ofOwn = {v, sport, sick, sport + (cold > 6 ? number : 0), 2 * sick, -cold};
                int[] ofOther = {v, 0, v, -number, v + number, v + 2};
                sum += (own ? ofOwn : ofOther)[crowd[u]];
            }
        }
        return sum;
    }

    private static void cuts() {
        DUE.about("CUT: n (0 .. 30), then TOWN 0 first, then 1; of like ones the first");
        DUE.is("no users", new OneWinter().cut(0), 0);
        DUE.is("no users", new OneWinter().cut(1), 0);
        for (int n = 0; n <= 30; n++) {
            // Only by n NIGHTS of its own has the USER 0: n * (30 - n) - (30 - n) * n. They are the first or the last.
            OneWinter x = Winters.ruled("gains 30-" + n + ";mild 0-" + n + ";most 1;", USER, 0, 0);
            int due = n <= 15 ? 10 * n : 10 * (30 - n) + 1;
            DUE.is("cut(0) of " + n, x.cut(0), due);
            DUE.is("cut(1) of " + n, x.cut(1), 0);
        }
        OneWinter x = Winters.ruled("gains (night<29)*2+1;mild 0;most 1;", USER, 0, 0, USER, 0, 1);
        DUE.is("15 times 3 and 14 times 3 with 1", x.cut(1), 2);
        DUE.is("15 times 3 and 14 times 3 with 1", x.cut(0), 150);
        DUE.is("lawful or not", x.share(0), 0);
        Winters.rule(x, "gains (night=0)*9+(night=1)*9;mild 0;most 30;");
        DUE.is("the first of like ones", x.cut(0), 10);
        for (String rule : new String[] {"gains town*5+(night<12)*9;mild 0;", "gains 7*(1-town)+night;mild 3;", "gains 5*town+night;mild 3;"}) {
            OneWinter y = Winters.ruled(rule + "most 30;", USER, 0, 0, USER, 0, 1);
            DUE.is("which is first matters", y.cut(0), cutOf(y));
        }
    }

    private static int cutOf(OneWinter x) {
        int found = -1;
        int least = HIGH;
        for (int n = 0; n <= 30; n++) {
            for (int first = 0; first < 2; first++) {
                int below = (int) ((1L << n) - 1);
                x.set(0, 0, first == 1 ? below : ALL_NIGHTS - below);
                int apart = Math.abs(x.worth(0) - x.worth(1));
                if (apart < least) {
                    least = apart;
                    found = 10 * n + first;
                }
            }
        }
        x.set(0, 0, 0);
        DUE.is("how far apart", x.cut(1), least);
        return found;
    }

    private static void changes() {
        DUE.about("CHANGE: if more than now; of like ones the first; NONE");
        DUE.is("no users", new OneWinter().change(0), -1);
        DUE.is("no users", new OneWinter().change(1), 0);
        OneWinter x = Winters.ruled("gains 4;mild 4;most 1;", USER, 0, 0);
        DUE.is("as much as now is not more", x.change(0), -1);
        DUE.is("as now", x.change(1), 120);
        Winters.rule(x, "gains 4;mild 4+(night=29);most 1;");
        DUE.is("the last night", x.change(0), 29);
        DUE.is("then", x.change(1), 121);
        Winters.rule(x, "gains 4;mild 5;most 30;");
        DUE.is("of like ones the first", x.change(0), 0);
        DUE.is("then", x.change(1), 121);
        Winters.rule(x, "gains 4;mild 5+(night=7)+(night=9);most 30;");
        DUE.is("of like ones the first", x.change(0), 7);
        x.set(0, 0, 1 << 7 | 1 << 9);
        DUE.is("not what is so now", x.change(0), 0);
        x.set(0, 0, ALL_NIGHTS);
        DUE.is("less by each", x.change(0), -1);
        DUE.is("as now", x.change(1), 152);
        Winters.rule(x, "gains 9;mild -9;most 1;");
        DUE.is("lawful or not", x.change(0), 0);
        DUE.is("below 0", x.change(1), -252);
    }

    private static void forTowns() {
        DUE.about("FOR (a TOWN): likewise");
        OneWinter x = Winters.ruled("gains 4;mild 4;most 1;", USER, 0, 0);
        for (int town = 0; town < 2; town++) {
            DUE.is("as much as now is not more", x.forTown(town, 0), -1);
            DUE.is("as now", x.forTown(town, 1), town == 0 ? 120 : 0);
            DUE.is("no users", new OneWinter().forTown(town, 0), -1);
            DUE.is("no users", new OneWinter().forTown(town, 1), 0);
        }
        Winters.rule(x, "gains 4;mild 1;most 30;");
        x.user(USER, 0, 1);
        x.user(USER, 0, 1);
        DUE.is("town 0 has all", x.forTown(0, 0), -1);
        DUE.is("town 0 has all", x.forTown(0, 1), 120);
        DUE.is("of like ones the first", x.forTown(1, 0), 0);
        DUE.is("worth of the town then", x.forTown(1, 1), 66);
        x.set(0, 0, ALL_NIGHTS);
        DUE.is("of like ones the first", x.forTown(0, 0), 0);
        DUE.is("worth of the town then", x.forTown(0, 1), 33);
        DUE.is("town 1 has all", x.forTown(1, 0), -1);
        DUE.is("town 1 has all", x.forTown(1, 1), 240);
        Winters.rule(x, "gains 4+(night=29);mild 1;most 30;");
        DUE.is("the last", x.forTown(0, 0), 29);
        DUE.is("the last", x.forTown(0, 1), 34);
    }

    private static void heaviest() {
        DUE.about("HEAVIEST: without its sign; of like ones the first; NONE");
        DUE.is("none", new OneWinter().heaviest(0), -1);
        DUE.is("none", new OneWinter().heaviest(1), 0);
        OneWinter x = Winters.with(USER, 0, 0, SICK, 0, 0, USER, 0, 0);
        DUE.is("150, -150, 150", x.heaviest(0), 0);
        DUE.is("150, -150, 150", x.heaviest(1), 150);
        OneWinter y = Winters.with(USER, 0, 1, SICK, 0, 0, USER, 0, 0, SHIP, 0, 0);
        DUE.is("30, -150, 150, -150", y.heaviest(0), 1);
        DUE.is("30, -150, 150, -150", y.heaviest(1), -150);
        y.user(SPORT, 0, 0);
        DUE.is("295", y.heaviest(0), 4);
        y.user(OLD, 0, 0);
        DUE.is("-300", y.heaviest(0), 5);
        DUE.is("-300", y.heaviest(1), -300);
        OneWinter z = Winters.ruled("gains 0;mild 0;most 1;", USER, 0, 0, SICK, 0, 1);
        DUE.is("all have nothing", z.heaviest(0), 0);
        DUE.is("all have nothing", z.heaviest(1), 0);
    }

    private static void toldNone() {
        DUE.about("TOLD: a SHEET of no numbers");
        OneWinter x = Winters.with(SLEIGH, 5, 1, USER, 0, 0);
        for (int i = 1; i <= 5; i++) {
            Winters.textOf(x, "gains " + i + ";mild 1;most 1;");
        }
        for (int sort = BYTES; sort <= INTS; sort++) {
            x.sheet(0, sort, 0);
            for (int u = 0; u < 2; u++) {
                DUE.is("NONE", x.tells(0, u, 0), -1);
                DUE.is("all kinds", x.tells(0, u, 1), 0b111111);
                DUE.is("all numbers", x.tells(0, u, 2), 0b1111111111);
                DUE.is("both towns", x.tells(0, u, 3), 0b11);
                DUE.is("all texts", x.tells(0, u, 4), 0b111111);
                DUE.is("no nights", x.tells(0, u, 5), 0);
            }
        }
    }

    private static void toldAll() {
        DUE.about("TOLD: NIGHTS 0, 1, .. (30 at most)");
        OneWinter x = Winters.with(SLEIGH, 9, 0, SHIP, 0, 1);
        x.set(1, 29, 9);
        for (int sort = SHORTS; sort <= INTS; sort++) {
            x.sheet(0, sort, 30);
            for (int i = 0; i < 30; i++) {
                x.cell(0, i, x.has(0, i));
            }
            DUE.is("all so", x.tells(0, 0, 0), -1);
            DUE.is("kind by the last night", x.tells(0, 0, 1), 1 << SLEIGH);
            DUE.is("number by the last night", x.tells(0, 0, 2), 1 << 9);
            DUE.is("town", x.tells(0, 0, 3), 1);
            DUE.is("the other user", x.tells(0, 1, 0), 0);
            x.cell(0, 29, 26);
            DUE.is("the last is otherwise", x.tells(0, 0, 0), 29);
            DUE.is("number 8", x.tells(0, 0, 2), 1 << 8);
            x.cell(0, 29, 18);
            DUE.is("number 0, or a sport", x.tells(0, 0, 2), 1);
            DUE.is("number 0, or a sport", x.tells(0, 0, 1), 1 << SPORT);
            x.cell(0, 28, -1);
            DUE.is("the first that is otherwise", x.tells(0, 0, 0), 28);
            x.cell(0, 0, 4);
            DUE.is("the first that is otherwise", x.tells(0, 0, 0), 0);
        }
        for (int n : new int[] {31, 40}) {
            for (int sort = BYTES; sort <= INTS; sort++) {
                x.sheet(1, sort, n);
                DUE.is("more than 30", x.tells(1, 0, 0), -2);
            }
        }
        OneWinter y = Winters.ruled("gains cold;mild 0-cold;most 1;", USER, 3, 1, USER, 5, 0);
        y.set(0, 0, 0b10);
        Winters.row(y, 2, BYTES, -5, 5);
        DUE.is("of town 1", y.tells(2, 0, 3), 0b10);
        DUE.is("were it of town 1", y.tells(2, 1, 3), 0b10);
        DUE.is("no kind of town 0", y.tells(2, 1, 1), 0);
        DUE.is("any number", y.tells(2, 0, 2), 1023);
        DUE.is("a user or nothing else", y.tells(2, 0, 1), 1 << USER);
    }

    private static void toldNights() {
        DUE.about("TOLD: NIGHTS of these that, were they the other TOWN's, would leave all so");
        OneWinter x = Winters.ruled("gains 2;mild 2;most 1;", USER, 0, 0, SPORT, 0, 0);
        for (int n : new int[] {1, 2, 29, 30}) {
            x.film(0, 0, n);
            DUE.is("all of " + n, x.tells(0, 0, 5), (int) ((1L << n) - 1));
        }
        // The RUN of those behind changes, too.
        x.film(1, 1, 4);
        DUE.is("of a sport none", x.tells(1, 1, 5), 0);
        Winters.row(x, 1, INTS, 2, 4, 4, 0);
        DUE.is("the last", x.tells(1, 1, 5), 0b1000);
        Winters.row(x, 1, INTS, 2, 0, 2, 4);
        DUE.is("one between", x.tells(1, 1, 5), 0b0010);
        Winters.row(x, 1, INTS, 0, 2, 4, 4);
        DUE.is("the first", x.tells(1, 1, 5), 0b0001);
        Winters.row(x, 1, INTS, 0, 2, 4, 0);
        DUE.is("no single one", x.tells(1, 1, 5), 0);
        OneWinter y = Winters.ruled("gains 2;mild 2+(night=29);most 1;", USER, 0, 0);
        y.film(0, 0, 30);
        DUE.is("but the last", y.tells(0, 0, 5), ALL_NIGHTS >> 1);
        y.cell(0, 29, 3);
        DUE.is("the last alone", y.tells(0, 0, 5), 1 << 29);
    }

    private static void toldTexts() {
        DUE.about("TOLD: TEXTS, were they THE RULE");
        OneWinter x = Winters.with(USER, 7, 0);
        Winters.textOf(x, "gains 5;mild 0;most 1;");
        Winters.textOf(x, "gains number;mild 0;most 1;");
        Winters.textOf(x, "gains 5+(night=1);mild 0;most 1;");
        Winters.textOf(x, "gains users+4;mild 9;most 1;");
        x.force(2);
        x.film(0, 0, 3);
        DUE.is("by text 2", x.tells(0, 0, 4), 1 << 2);
        Winters.row(x, 1, BYTES, 5, 5);
        DUE.is("by texts 0, 1, 4, not by the rule", x.tells(1, 0, 4), 0b10011);
        DUE.is("by the rule the first is otherwise", x.tells(1, 0, 0), 0);
        Winters.row(x, 1, BYTES, 5);
        DUE.is("by texts 0, 1, 3, 4", x.tells(1, 0, 4), 0b11011);
        Winters.textOf(x, "gains 5;mild 0;most 1;");
        DUE.is("by text 5, too", x.tells(1, 0, 4), 0b111011);
        DUE.is("the rule stays", x.count(4), 2);
    }

    private static void filmed() {
        DUE.about("film: NIGHTS 0 .. n less 1 (0 .. 30; shorts)");
        OneWinter x = Winters.ruled("gains 99;mild -99;most 1;", OLD, 9, 0, SPORT, 9, 0);
        for (int n : new int[] {0, 1, 29, 30}) {
            for (int sort = -1; sort <= INTS; sort++) {
                x.sheet(3, sort, 5);
                DUE.is("film of " + n, x.film(3, 0, n), n);
                DUE.is("it is of shorts", x.users(3, SHORTS, 0, 0), 0);
                DUE.is("not of bytes", x.users(3, BYTES, 0, 0), -13);
                DUE.is("not of ints", x.users(3, INTS, 0, 0), -13);
                DUE.is("so many", x.copy(3, 0, 3, 0, n), n);
                DUE.is("no more", x.copy(3, 0, 3, 0, n + 1), -12);
                DUE.is("all so", x.tells(3, 0, 0), -1);
            }
        }
        x.sheet(2, SHORTS, 30);
        for (int i = 0; i < 30; i++) {
            x.cell(2, i, -198);
        }
        DUE.is("it has -198", x.tells(2, 0, 0), -1);
        DUE.is("as filmed", x.copy(3, 0, 2, 0, 30), 30);
        DUE.is("as filmed", x.tells(2, 0, 0), -1);
    }

    private static int cold(int seed, int night) {
        java.math.BigInteger z = java.math.BigInteger.valueOf(seed);
        for (int i = 0; i <= night; i++) {
            z = z.multiply(java.math.BigInteger.valueOf(1103515245)).add(java.math.BigInteger.valueOf(12345));
        }
        return (int) ((z.longValue() & 0xffffffffL) >> 9) % 10;
    }

    private static void drawn() {
        DUE.about("DRAWN by a SEED");
        for (int seed : new int[] {0, 1, -1, HIGH, LOW, LOW + 1, 99991}) {
            OneWinter x = Winters.ruled("gains cold*((night<10)+(night=29)*2);mild 0;most 1;", USER, 0, 0);
            x.set(1, 4, 9);
            x.set(1, 29, 0);
            int due = 2 * cold(seed, 29);
            for (int i = 0; i < 10; i++) {
                due += cold(seed, i);
            }
            DUE.is("drawn(" + seed + ")", x.drawn(seed), due);
            DUE.is("the colds stay", x.told(4, 1), 9);
            DUE.is("the colds stay", x.worth(0), 54);
            x.set(3, 0, 1);
            DUE.is("by THE SHARE", x.drawn(seed), 0);
            x.set(0, 0, 1 << 29);
            DUE.is("by THE SHARE", x.drawn(seed), 2 * cold(seed, 29));
        }
        DUE.is("no users", new OneWinter().drawn(HIGH), 0);
    }

    private static void chances() {
        DUE.about("IN n seeds (1 .. 20), SEED and each 1 more (an int)");
        DUE.is("no users", new OneWinter().chance(0, 1, 0), 0);
        DUE.is("no users", new OneWinter().chance(0, 1, 1), 1);
        OneWinter x = Winters.ruled("gains cold*(night=3)-4;mild 0-4;most 1;", USER, 0, 0, USER, 0, 1);
        for (int seed : new int[] {0, 41, -5, HIGH, HIGH - 1, HIGH - 19, LOW}) {
            for (int n : new int[] {1, 2, 7, 12, 19, 20}) {
                int more = 0;
                for (int k = 0; k < n; k++) {
                    more += cold(seed + k, 3) > 0 ? 1 : 0;
                }
                isQuotient(x, seed, n, more);
            }
        }
        // Of towns that are worth as much neither is worth more.
        OneWinter y = Winters.ruled("gains cold;mild cold;most 1;", USER, 0, 0, USER, 0, 1);
        isQuotient(y, 7, 20, 0);
        y.user(USER, 0, 1);
        isQuotient(y, 7, 20, 0);
        y.set(3, 1, 0);
        isQuotient(y, 7, 20, 20);
        OneWinter z = Winters.ruled("gains 2*(cold*(night=0)<5)-1+(0<night);mild 0;most 1;", USER, 0, 0);
        for (int n = 1; n <= 20; n++) {
            int more = 0;
            for (int k = 0; k < n; k++) {
                more += cold(HIGH - 8 + k, 0) < 5 ? 1 : 0;
            }
            // It has 2 of each NIGHT but the first; of that 1 or -1, and then that is all.
            isQuotient(z, HIGH - 8, n, n);
            z.set(0, 0, ALL_NIGHTS - 1);
            isQuotient(z, HIGH - 8, n, more);
            z.set(0, 0, 0);
        }
    }

    private static void isQuotient(OneWinter x, int seed, int n, int more) {
        int by = java.math.BigInteger.valueOf(more).gcd(java.math.BigInteger.valueOf(n)).intValue();
        DUE.is("chance(" + seed + ", " + n + ", 0)", x.chance(seed, n, 0), more / by);
        DUE.is("chance(" + seed + ", " + n + ", 1)", x.chance(seed, n, 1), n / by);
    }

    private static void images() {
        DUE.about("AN IMAGE (USERS that came since go)");
        OneWinter x = Winters.with(SPORT, 1, 0, SICK, 2, 1);
        DUE.is("none", x.back(), -3);
        DUE.is("image", x.image(), 2);
        for (int i = 2; i < 6; i++) {
            x.user(SHIP, 9, 1);
        }
        x.set(2, 0, 8);
        x.set(3, 1, 0);
        DUE.is("back", x.back(), 2);
        DUE.is("users", x.count(0), 2);
        DUE.is("of town 1", x.count(1), 1);
        DUE.is("those that came since go", x.told(2, 4), -2);
        DUE.is("those that came since go", x.has(2, 0), -100000);
        DUE.is("number", x.told(0, 2), 1);
        DUE.is("town", x.told(1, 3), 1);
        DUE.is("room for another", x.user(OLD, 3, 0), 2);
        DUE.is("it is another", x.told(2, 4), OLD);
        DUE.is("it is another", x.told(2, 2), 3);
        DUE.is("it is another", x.told(2, 3), 0);
        DUE.is("image of three", x.image(), 3);
        x.set(2, 2, 0);
        DUE.is("back to three", x.back(), 3);
        DUE.is("number of the third", x.told(2, 2), 3);
        DUE.is("back once more", x.back(), 3);
        for (int i = 3; i < 6; i++) {
            x.user(USER, i, 0);
        }
        DUE.is("image of six", x.image(), 6);
        x.set(2, 5, 0);
        x.set(3, 5, 1);
        DUE.is("back to six", x.back(), 6);
        DUE.is("number of the sixth", x.told(5, 2), 5);
        DUE.is("town of the sixth", x.told(5, 3), 0);
        DUE.is("still full", x.user(USER, 0, 0), -4);
        imageKeeps();
    }

    private static void imageKeeps() {
        OneWinter x = Winters.ruled("gains 3;mild 0;most 1;", USER, 0, 0);
        x.set(1, 0, 0);
        x.set(1, 29, 9);
        x.set(0, 0, ALL_NIGHTS);
        x.image();
        Winters.rule(x, "gains 4;mild 0;most 1;");
        x.set(1, 0, 7);
        x.set(1, 29, 7);
        x.set(0, 0, 1);
        Winters.row(x, 0, BYTES, 1, 2, 3);
        Winters.feedAll(x, "gai");
        DUE.is("back", x.back(), 1);
        DUE.is("night 0", x.told(0, 1), 0);
        DUE.is("night 29", x.told(29, 1), 9);
        DUE.is("the share", x.told(0, 0), ALL_NIGHTS);
        DUE.is("the rule", x.count(4), 1);
        DUE.is("texts stay", x.count(2), 3);
        DUE.is("texts stay", x.force(2), 1);
        DUE.is("the tape stays", x.count(3), 3);
        DUE.is("sheets stay", x.users(0, BYTES, 0, 1), 0);
        DUE.is("sheets stay", x.copy(0, 0, 0, 0, 3), 3);
        OneWinter none = new OneWinter();
        DUE.is("an image of no users", none.image(), 0);
        none.user(USER, 0, 0);
        none.set(0, 0, 1);
        DUE.is("back", none.back(), 0);
        DUE.is("users", none.count(0), 0);
        DUE.is("the share", none.told(0, 0), 0);
        DUE.is("the first", none.user(SHIP, 1, 1), 0);
    }

    // ---- terms 3

    private static void sheetSizes() {
        DUE.about("SHEETS 0 .. 3, missing at first, of 0 .. 40 numbers");
        OneWinter x = Winters.ruled("gains 0;mild 0;most 1;", USER, 0, 0);
        for (int s = 0; s < 4; s++) {
            DUE.is("missing", x.cell(s, 0, 1), -11);
            DUE.is("missing", x.tells(s, 0, 0), -11);
            for (int n : new int[] {0, 30, 31, 40}) {
                for (int sort = BYTES; sort <= INTS; sort++) {
                    DUE.is("sheet", x.sheet(s, sort, n), 1);
                    DUE.is("of that sort", x.users(s, sort, 0, 0), 0);
                    DUE.is("told", x.tells(s, 0, 0), n > 30 ? -2 : -1);
                    DUE.is("behind the last", x.cell(s, n, 1), -12);
                    if (n > 0) {
                        DUE.is("the last", x.cell(s, n - 1, 1), 1);
                        DUE.is("the first", x.cell(s, 0, 1), 1);
                    }
                    DUE.is("the other sheets", x.cell((s + 1) % 4, 0, 1), s == 3 ? 1 : -11);
                }
                DUE.is("all 0", x.sheet(s, BYTES, 30) + x.tells(s, 0, 0), 0);
            }
        }
        DUE.is("missing again", x.sheet(2, -1, LOW), 1);
        DUE.is("missing again", x.cell(2, 0, 1), -11);
        DUE.is("the others stay", x.cell(1, 0, 1), 1);
        DUE.is("missing once more", x.sheet(2, -1, 41), 1);
    }

    private static void lowestBits() {
        DUE.about("of bytes, shorts its lowest 8, 16 bits");
        int[][] bytes = {{0, 0}, {1, 1}, {-1, -1}, {99, 99}, {-99, -99}, {128, -128}, {-128, -128}, {255, -1}, {256, 0}, {257, 1},
            {-256, 0}, {-255, 1}, {355, 99}, {LOW, 0}, {HIGH, -1}, {0x12345605, 5}, {0x123456fb, -5}, {65535, -1}, {65541, 5}};
        int[][] shorts = {{0, 0}, {-1, -1}, {128, 128}, {-128, -128}, {198, 198}, {-198, -198}, {65535, -1}, {65536, 0}, {65537, 1}, {-65536, 0},
            {-65535, 1}, {65436, -100}, {65338, -198}, {LOW, 0}, {HIGH, -1}, {0x12340005, 5}, {0x1234fffb, -5}};
        int[][] ints = {{0, 0}, {-1, -1}, {128, 128}, {-198, -198}, {198, 198}};
        for (int[] b : bytes) {
            lowestBits(BYTES, b[0], b[1]);
        }
        for (int[] s : shorts) {
            lowestBits(SHORTS, s[0], s[1]);
        }
        for (int[] i : ints) {
            lowestBits(INTS, i[0], i[1]);
        }
        // What is too great for any HAS is otherwise, and so is the like of it in ints.
        OneWinter x = Winters.ruled("gains 5;mild 0;most 1;", USER, 0, 0);
        for (int v : new int[] {5 + 256, 5 - 256, 5 + 65536, 5 - 65536, LOW + 5}) {
            Winters.row(x, 1, BYTES, v);
            DUE.is("of bytes " + v, x.tells(1, 0, 0), -1);
            Winters.row(x, 1, SHORTS, v);
            DUE.is("of shorts " + v, x.tells(1, 0, 0), v == 5 + 256 || v == 5 - 256 ? 0 : -1);
            Winters.row(x, 1, INTS, v);
            DUE.is("of ints " + v, x.tells(1, 0, 0), 0);
        }
    }

    private static void lowestBits(int sort, int v, int due) {
        // 198 is had by a SPORT with RUN 2, -198 by an OLD: NIGHT 1 tells, NIGHT 0 is told as it is.
        OneWinter x = Winters.with(USER, 0, 0, OLD, 0, 0, SPORT, 0, 0);
        int user = Math.abs(due) < 100 ? 0 : due < 0 ? 1 : 2;
        int gains = user == 0 ? due : Math.abs(due) / 2;
        Winters.rule(x, "gains " + gains + ";mild 0;most 1;");
        x.sheet(0, sort, 2);
        x.cell(0, 0, x.has(user, 0));
        DUE.is("cell", x.cell(0, 1, v), 1);
        DUE.is("sort " + sort + ": " + v + " is " + due, x.tells(0, user, 0), -1);
        // A copy takes it as it is.
        x.sheet(1, sort, 2);
        DUE.is("copy", x.copy(0, 0, 1, 0, 2), 2);
        DUE.is("a copy of it", x.tells(1, user, 0), -1);
        x.cell(1, 1, v + 1);
        DUE.is("1 more is otherwise", x.tells(1, user, 0), 1);
    }

    private static void copiesWithin() {
        DUE.about("a copy within one SHEET (as they were)");
        for (int sort = BYTES; sort <= INTS; sort++) {
            for (int[] c : new int[][] {{0, 1, 9}, {1, 0, 9}, {0, 3, 7}, {3, 0, 7}, {0, 0, 10}, {0, 5, 5}, {9, 0, 1}, {0, 9, 1}, {2, 2, 3}}) {
                OneWinter x = Winters.with(USER, 0, 0);
                x.sheet(0, sort, 10);
                int[] due = new int[10];
                for (int i = 0; i < 10; i++) {
                    due[i] = i;
                    x.cell(0, i, i);
                }
                System.arraycopy(due.clone(), c[0], due, c[1], c[2]);
                DUE.is("copy", x.copy(0, c[0], 0, c[1], c[2]), c[2]);
                for (int i = 0; i < 10; i++) {
                    x.set(1, i, due[i]);
                }
                DUE.is("copy(0, " + c[0] + ", 0, " + c[1] + ", " + c[2] + ")", x.tells(0, 0, 0), -1);
            }
        }
    }

    private static void copiesAtTheEnd() {
        DUE.about("a copy at a row's end and behind it");
        OneWinter x = Winters.with(USER, 0, 0);
        Winters.row(x, 0, INTS, 1, 2, 3, 4);
        Winters.row(x, 1, INTS, 5, 6);
        DUE.is("all of the shorter", x.copy(1, 0, 0, 2, 2), 2);
        DUE.is("into all of the shorter", x.copy(0, 2, 1, 0, 2), 2);
        DUE.is("one too many to read", x.copy(1, 0, 0, 0, 3), -12);
        DUE.is("one too many to write", x.copy(0, 0, 1, 0, 3), -12);
        DUE.is("one place too far to read", x.copy(1, 1, 0, 0, 2), -12);
        DUE.is("one place too far to write", x.copy(0, 0, 1, 1, 2), -12);
        DUE.is("the last", x.copy(0, 3, 1, 1, 1), 1);
        DUE.is("behind the last", x.copy(0, 4, 1, 0, 1), -12);
        DUE.is("behind the last", x.copy(0, 0, 1, 2, 1), -12);
        DUE.is("none at the ends", x.copy(0, 4, 1, 2, 0), 0);
        DUE.is("none behind an end", x.copy(0, 5, 1, 2, 0), -12);
        DUE.is("none behind an end", x.copy(0, 4, 1, 3, 0), -12);
        DUE.is("none ahead of a row", x.copy(0, -1, 1, 0, 0), -12);
        DUE.is("none ahead of a row", x.copy(0, 0, 1, -1, 0), -12);
        DUE.is("below 0", x.copy(0, 2, 1, 1, -1), -12);
        for (int i = 0; i < 4; i++) {
            x.set(1, i, new int[] {1, 2, 5, 6}[i]);
        }
        DUE.is("what came", x.tells(0, 0, 0), -1);
        x.sheet(2, INTS, 0);
        DUE.is("of a row of none", x.copy(2, 0, 0, 4, 0), 0);
        DUE.is("to a row of none", x.copy(0, 0, 2, 0, 0), 0);
        DUE.is("one of a row of none", x.copy(2, 0, 0, 0, 1), -12);
        DUE.is("one to a row of none", x.copy(0, 0, 2, 0, 1), -12);
        x.sheet(2, INTS, 40);
        x.sheet(3, INTS, 40);
        DUE.is("forty", x.copy(2, 0, 3, 0, 40), 40);
        DUE.is("the fortieth", x.copy(2, 39, 3, 39, 1), 1);
        DUE.is("forty-one", x.copy(2, 0, 3, 0, 41), -12);
    }

    private static void usersAtTheEnd() {
        DUE.about("users: what stood ahead came");
        // From 0: three USERS and two numbers; from 2 and from 5: one with TOWN 0 or 1, at the end.
        int[] items = {0, 1, 0, 1, 2, 1, 2, 3, 0, 7, 1};
        for (int sort = BYTES; sort <= INTS; sort++) {
            OneWinter x = new OneWinter();
            Winters.row(x, 1, sort, items);
            DUE.is("three stood ahead", x.users(1, sort, 0, 4), -12);
            DUE.is("they came", x.count(0), 3);
            DUE.is("the last of them", x.told(2, 2), 3);
            DUE.is("from 2 on, to the end", x.users(1, sort, 2, 3), 1);
            DUE.is("the one that came", x.told(3, 4), 0);
            DUE.is("the one that came", x.told(3, 2), 7);
            DUE.is("the one that came", x.told(3, 3), 1);
            DUE.is("from 5 on, to the end", x.users(1, sort, 5, 2), 1);
            DUE.is("from 8 on, and outside", x.users(1, sort, 8, 2), -12);
            DUE.is("behind the end", x.users(1, sort, 9, 1), -12);
            DUE.is("behind the end", x.users(1, sort, 11, 1), -12);
            DUE.is("ahead of the row", x.users(1, sort, -1, 1), -12);
            DUE.is("none at all", x.users(1, sort, 0, 0), 0);
            DUE.is("six", x.count(0), 6);
        }
        OneWinter y = new OneWinter();
        y.sheet(0, BYTES, 18);
        DUE.is("six at once", y.users(0, BYTES, 0, 6), 6);
        DUE.is("no room for more", y.users(0, BYTES, 0, 6), 0);
        DUE.is("no room, and outside", y.users(0, BYTES, 3, 6), -12);
        DUE.is("six", y.count(0), 6);
        OneWinter z = new OneWinter();
        z.user(0, 0, 0);
        z.sheet(0, BYTES, 18);
        DUE.is("five have room", z.users(0, BYTES, 0, 6), 5);
        OneWinter w = new OneWinter();
        Winters.row(w, 0, INTS, 6, 0, 0, 0, 10, 0, 0, 0, 2, -1, 0, 0, 0, -1, 0, 5, 9, 1);
        DUE.is("others are left out", w.users(0, INTS, 0, 6), 1);
        DUE.is("the one that came", w.told(0, 4), SHIP);
        DUE.is("the one that came", w.told(0, 2), 9);
        DUE.is("the one that came", w.told(0, 3), 1);
    }

    private static void kindsUnderKinds() {
        DUE.about("taken: KIND k, or one under that one, also by others between");
        OneWinter x = Winters.with(USER, 0, 0, SPORT, 1, 0, SICK, 2, 0, SLEIGH, 3, 0, OLD, 4, 0, SHIP, 9, 0);
        int[][] under = {{0}, {0, 1}, {0, 2}, {0, 1, 3}, {0, 2, 4}, {0, 5}};
        int[] numbers = {0, 1, 2, 3, 4, 9};
        for (int u = 0; u < 6; u++) {
            for (int k = 0; k < 6; k++) {
                int due = -13;
                for (int kind : under[u]) {
                    due = kind == k ? numbers[u] : due;
                }
                DUE.is("taken(" + u + ", " + k + ")", x.taken(u, k), due);
            }
        }
    }
}
