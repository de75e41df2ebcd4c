/** BEST (promises 12 and 13) against every LAWFUL SHARE there is, where so few NIGHTS at once are allowed that all can be tried. */
public final class EveryShareTest {
    private static final Due DUE = new Due();
    private static final int USER = 0, SPORT = 1, SICK = 2, SLEIGH = 3, OLD = 4, SHIP = 5;

    private interface E {
        int of(int cold, int number, int run, int town);
    }

    private final int[] crowd;
    private final int[] colds = new int[30];
    private final int[] most;
    // What all USERS have of a NIGHT, were it that TOWN's with that RUN.
    private final int[][][] all = new int[30][2][4];
    private int best = Integer.MIN_VALUE;
    private int share = 0;
    private int lawful = 0;

    private EveryShareTest(int[] crowd, int[] most, int step) {
        this.crowd = crowd;
        this.most = most;
        for (int i = 0; i < 30; i++) {
            colds[i] = i * step % 10;
        }
    }

    public static void main(String[] args) {
        E cold = (c, number, run, town) -> c;
        E mixed = (c, number, run, town) -> c + number - 2 * run * run;
        E towns = (c, number, run, town) -> 3 * town - 1;
        E none = (c, number, run, town) -> 4;
        int[][] crowds = {
            {USER, 0, 0, USER, 0, 1},
            {SPORT, 3, 0, SICK, 4, 1, SLEIGH, 8, 1},
            {USER, 1, 0, SPORT, 2, 1, SICK, 3, 0, SLEIGH, 4, 1, OLD, 5, 0, SHIP, 6, 1}};
        int[] due = {2, 7739, 144051, 2692538};
        int[][] mosts = {{1, 1}, {2, 1}, {1, 3}, {2, 2}};
        for (int i = 0; i < mosts.length; i++) {
            for (int k = 0; k < crowds.length; k++) {
                new EveryShareTest(crowds[k], mosts[i], 7).run("gains cold;mild 3*town-1;", cold, towns, due[i]);
                new EveryShareTest(crowds[k], mosts[i], 3).run("gains cold+number-2*run*run;mild cold;", mixed, cold, due[i]);
                new EveryShareTest(crowds[k], mosts[i], 0).run("gains 4;mild 4;", none, none, due[i]);
            }
        }
        DUE.end("EveryShareTest");
    }

    private void run(String rule, E gains, E mild, int many) {
        String text = rule + "most " + most[0] + "+town*(" + most[1] + "-" + most[0] + ");";
        DUE.about(text + " by " + crowd.length / 3 + " users");
        OneWinter x = Winters.ruled(text, crowd);
        for (int i = 0; i < 30; i++) {
            x.set(1, i, colds[i]);
        }
        fill(gains, mild);
        go(0, -1, 0, 0, 0);
        DUE.is("lawful shares", lawful, many);
        DUE.is("best(0)", x.best(0), share);
        DUE.is("best(1)", x.best(1), best);
        DUE.is("settle()", x.settle(), best);
        DUE.is("told(0, 0)", x.told(0, 0), share);
    }

    private void fill(E gains, E mild) {
        for (int i = 0; i < 30; i++) {
            for (int town = 0; town < 2; town++) {
                for (int run = 1; run < 4; run++) {
                    for (int u = 0; u < crowd.length; u += 3) {
                        boolean own = crowd[u + 2] == town;
                        int v = (own ? gains : mild).of(colds[i], crowd[u + 1], run, town);
                        all[i][town][run] += has(crowd[u], crowd[u + 1], own, v, colds[i], run);
                    }
                }
            }
        }
    }

    private static int has(int kind, int number, boolean own, int v, int cold, int run) {
        int sport = run >= 2 ? 2 * v : v;
        int sick = cold > 4 ? -v : 0;
        return switch (kind) {
            case SPORT -> own ? sport : 0;
            case SICK -> own ? sick : v;
            case SLEIGH -> own ? sport + (cold > 6 ? number : 0) : -number;
            case OLD -> own ? 2 * sick : v + number;
            case SHIP -> own ? -cold : v + 2;
            default -> v;
        };
    }

    // TOWN 0 is tried ahead of TOWN 1, so that of like ones the first is kept.
    private void go(int night, int town, int run, int sum, int bits) {
        if (night == 30) {
            lawful++;
            if (sum > best) {
                best = sum;
                share = bits;
            }
            return;
        }
        for (int next = 0; next < 2; next++) {
            int then = next == town ? run + 1 : 1;
            if (then <= most[next]) {
                go(night + 1, next, then, sum + all[night][next][then], bits | next << night);
            }
        }
    }
}
