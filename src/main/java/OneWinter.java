/**
 * One winter between two towns: thirty nights, each of them winter in one town
 * and mild in the other. The document ../shared/DOC.md tells what each call
 * answers; the words used here (share, run, worth, lawful ..) are its words.
 */
public final class OneWinter {
    public static final int NONE = -1, BAD = -2, STATE = -3, FULL = -4;
    public static final long NO = -4611686018427387904L;

    // What the host refuses by.
    private static final int NOTHING = -11, OUTSIDE = -12, UNLIKE = -13, BELOW = -14;
    private static final int NO_HAS = -100000, NO_WORTH = -1000000;

    private static final int NIGHTS = 30, USERS = 6, TEXTS = 6, SHEETS = 4, TAPE = 160;
    private static final int ALL_NIGHTS = (1 << NIGHTS) - 1;
    private static final int HIGHEST_DIGIT = 9, TOWNS = 2, ALL = 2, DIGITS = 10;
    private static final int SHEET_ITEMS = 40, BYTES = 0, SHORTS = 1, INTS = 2, MISSING = -1;
    private static final int MOST_SEEDS = 20;

    private static final int USER = 0, SPORT = 1, SICK = 2, SLEIGH = 3, OLD = 4, SHIP = 5, KINDS = 6;
    // Of each KIND the one that it stands under.
    private static final int[] ABOVE = {-1, USER, USER, SPORT, SICK, USER};

    // The parts of a TEXT.
    private static final int GAINS = 0, MILD = 1, MOST = 2, PARTS = 3;
    private static final int WORTH_BOUND = 99;
    private static final int OPEN_AT_ONCE = 5, NUMBER_DIGITS = 4;

    // A code of a TEXT is a number from 0 on, a NAME (-1 less its place below) or a deed.
    private static final int COLD = 0, NIGHT = 1, NUMBER = 2, RUN = 3, TOWN = 4, HOW_MANY = 5, NAMES = 6;
    private static final int OR = -11, AND = -12, LESS = -13, SAME = -14, PLUS = -15, MINUS = -16, TIMES = -17;
    private static final int NOT = -21, NEGATE = -22;
    // Six levels of five operands that wait at most: 31; the rest is slack.
    private static final int STACK = 40;

    // Sorts of TOKENS; a sign is its own character.
    private static final int T_END = 0, T_WRONG = 1, T_NUMBER = 2, T_NAME = 3;
    private static final int T_GAINS = 301, T_MILD = 302, T_MOST = 303, T_OR = 304, T_AND = 305, T_NOT = 306;

    // Below every sum of what USERS have: a share that is not LAWFUL.
    private static final int UNLAWFUL = -2000000000;

    private final int[] colds = new int[NIGHTS];
    private int nights = 0;
    private final User[] crowd = new User[USERS];
    private int here = 0;
    private final User guess = new User();

    private final Reader reader = new Reader();
    private final Text[] texts = new Text[TEXTS];
    private int textsRead = 1;
    private int rule = 0;

    private final Sheet[] sheets = new Sheet[SHEETS];
    private final Image kept = new Image();

    // Rows that calls use again and again, so that no call makes any.
    private final int[] names = new int[NAMES];
    private final int[] stack = new int[STACK];
    private final int[] drawnColds = new int[NIGHTS];
    private final int[] limits = new int[NIGHTS * TOWNS];
    private final int[] ahead = new int[NIGHTS * TOWNS * NIGHTS];

    public OneWinter() {
        for (int i = 0; i < NIGHTS; i++) {
            colds[i] = 5;
        }
        for (int i = 0; i < USERS; i++) {
            crowd[i] = new User();
        }
        for (int i = 0; i < TEXTS; i++) {
            texts[i] = new Text();
        }
        for (int i = 0; i < SHEETS; i++) {
            sheets[i] = new Sheet();
        }
        texts[0].writeFirst();
    }

    // ---- nights, users

    public int set(int what, int of, int v) {
        switch (what) {
            case 0: return putShare(v);
            case 1: return putCold(of, v);
            case 2: return putNumber(of, v);
            case 3: return putTown(of, v);
            default: return BAD;
        }
    }

    private int putShare(int v) {
        if (v < 0 || v > ALL_NIGHTS) {
            return BAD;
        }
        int was = nights;
        nights = v;
        return was;
    }

    private int putCold(int night, int v) {
        if (!isNight(night) || !isDigit(v)) {
            return BAD;
        }
        int was = colds[night];
        colds[night] = v;
        return was;
    }

    private int putNumber(int user, int v) {
        if (!isUser(user) || !isDigit(v)) {
            return BAD;
        }
        int was = crowd[user].number;
        crowd[user].number = v;
        return was;
    }

    private int putTown(int user, int v) {
        if (!isUser(user) || !isTown(v)) {
            return BAD;
        }
        int was = crowd[user].town;
        crowd[user].town = v;
        return was;
    }

    public int user(int kind, int number, int town) {
        if (!isKind(kind) || !isDigit(number) || !isTown(town)) {
            return BAD;
        }
        if (here >= USERS) {
            return FULL;
        }
        crowd[here].become(kind, number, town);
        here++;
        return here - 1;
    }

    public int told(int of, int what) {
        switch (what) {
            case 0: return nights;
            case 1: return isNight(of) ? colds[of] : BAD;
            case 2: return isUser(of) ? crowd[of].number : BAD;
            case 3: return isUser(of) ? crowd[of].town : BAD;
            case 4: return isUser(of) ? crowd[of].kind : BAD;
            case 5: return isNight(of) ? runOf(nights, of) : BAD;
            case 6: return isNight(of) ? mostOf(of, townOf(nights, of)) : BAD;
            default: return BAD;
        }
    }

    private boolean isUser(int user) {
        return user >= 0 && user < here && user < USERS;
    }

    private static boolean isNight(int night) {
        return night >= 0 && night < NIGHTS;
    }

    private static boolean isDigit(int v) {
        return v >= 0 && v <= HIGHEST_DIGIT;
    }

    private static boolean isTown(int town) {
        return town == 0 || town == 1;
    }

    private static boolean isKind(int kind) {
        return kind >= 0 && kind < KINDS;
    }

    private static boolean isSheet(int sheet) {
        return sheet >= 0 && sheet < SHEETS;
    }

    private static boolean isSort(int sort) {
        return sort >= BYTES && sort <= INTS;
    }

    // ---- texts

    public int feed(int letter) {
        if (letter < 0 || letter > 255) {
            return BAD;
        }
        return reader.comesBehind(letter) ? reader.size : FULL;
    }

    public int text() {
        if (textsRead >= TEXTS) {
            return FULL;
        }
        boolean fits = reader.readsInto(texts[textsRead]);
        reader.size = 0;
        if (!fits) {
            return -100 - reader.fault;
        }
        textsRead++;
        return textsRead - 1;
    }

    public int force(int text) {
        if (text < 0 || text >= textsRead) {
            return BAD;
        }
        int was = rule;
        rule = text;
        return was;
    }

    private Text textAt(int text) {
        return texts[text >= 0 && text < TEXTS ? text : 0];
    }

    // ---- shares

    public int has(int user, int night) {
        if (!isUser(user) || !isNight(night)) {
            return NO_HAS;
        }
        return hasAt(crowd[user], textAt(rule), colds, night, townOf(nights, night), runOf(nights, night));
    }

    public int worth(int what) {
        if (what < 0 || what > ALL) {
            return NO_WORTH;
        }
        return worthOf(what, colds, nights);
    }

    public int share(int what) {
        switch (what) {
            case 0: return firstTooLong() == NONE ? 1 : 0;
            case 1: return firstTooLong();
            case 2: return longest();
            case 3: return Integer.bitCount(nights);
            default: return BAD;
        }
    }

    public long mean(int user, int part) {
        if (!isUser(user) || part < 0 || part > 1) {
            return NO;
        }
        return lowest(sumOf(crowd[user], colds, nights), NIGHTS, part);
    }

    private static int townOf(int share, int night) {
        return (share >>> night) & 1;
    }

    // RUN of a NIGHT, when that of the NIGHT before is known.
    private static int runBehind(int share, int night, int before) {
        if (night > 0 && townOf(share, night) == townOf(share, night - 1)) {
            return before + 1;
        }
        return 1;
    }

    private static int runOf(int share, int night) {
        int run = 0;
        for (int i = 0; i <= night && i < NIGHTS; i++) {
            run = runBehind(share, i, run);
        }
        return run;
    }

    private int firstTooLong() {
        int run = 0;
        for (int i = 0; i < NIGHTS; i++) {
            run = runBehind(nights, i, run);
            if (run > mostOf(i, townOf(nights, i))) {
                return i;
            }
        }
        return NONE;
    }

    private int longest() {
        int run = 0;
        int most = 0;
        for (int i = 0; i < NIGHTS; i++) {
            run = runBehind(nights, i, run);
            most = Math.max(most, run);
        }
        return most;
    }

    private int mostOf(int night, int town) {
        names[COLD] = colds[night];
        names[NIGHT] = night;
        names[NUMBER] = 0;
        names[RUN] = 0;
        names[TOWN] = town;
        names[HOW_MANY] = here;
        return bounded(textAt(rule).valueOf(MOST, names, stack), 1, NIGHTS);
    }

    // What a USER has of a NIGHT, were it that TOWN's with that RUN.
    private int hasAt(User user, Text by, int[] weather, int night, int town, int run) {
        int cold = night >= 0 && night < weather.length ? weather[night] : 0;
        names[COLD] = cold;
        names[NIGHT] = night;
        names[NUMBER] = user.number;
        names[RUN] = run;
        names[TOWN] = town;
        names[HOW_MANY] = here;
        boolean own = user.town == town;
        int v = bounded(by.valueOf(own ? GAINS : MILD, names, stack), -WORTH_BOUND, WORTH_BOUND);
        return own ? user.ofWinter(v, cold, run) : user.ofMild(v);
    }

    private int sumOf(User user, int[] weather, int share) {
        Text by = textAt(rule);
        int sum = 0;
        int run = 0;
        for (int i = 0; i < NIGHTS; i++) {
            run = runBehind(share, i, run);
            sum += hasAt(user, by, weather, i, townOf(share, i), run);
        }
        return sum;
    }

    private int worthOf(int what, int[] weather, int share) {
        int sum = 0;
        for (int i = 0; i < here && i < USERS; i++) {
            if (what == ALL || crowd[i].town == what) {
                sum += sumOf(crowd[i], weather, share);
            }
        }
        return sum;
    }

    private static int bounded(int v, int low, int high) {
        return Math.max(low, Math.min(high, v));
    }

    private static int divisorOf(int a, int b) {
        // Of ints this ends within some fifty steps.
        for (int i = 0; i < 100 && b != 0; i++) {
            int rest = a % b;
            a = b;
            b = rest;
        }
        return a;
    }

    private static long lowest(int above, int below, int part) {
        int by = divisorOf(Math.abs(above), below);
        if (by == 0) {
            return NO;
        }
        return part == 0 ? above / by : below / by;
    }

    // ---- what would be best

    public int best(int what) {
        if (what < 0 || what > 1) {
            return NO_WORTH;
        }
        int share = findBest();
        return what == 0 ? share : worthOf(ALL, colds, share);
    }

    public int settle() {
        nights = findBest();
        return worthOf(ALL, colds, nights);
    }

    public int cut(int what) {
        if (what < 0 || what > 1) {
            return BAD;
        }
        int found = NONE;
        int least = 0;
        for (int n = 0; n <= NIGHTS; n++) {
            for (int first = 0; first < TOWNS; first++) {
                int apart = apartBy(cutShare(n, first));
                if (found == NONE || apart < least) {
                    least = apart;
                    found = 10 * n + first;
                }
            }
        }
        return what == 0 ? found : least;
    }

    public int change(int what) {
        if (what < 0 || what > 1) {
            return NO_WORTH;
        }
        int night = findFlip(ALL);
        return what == 0 ? night : worthOf(ALL, colds, flipped(night));
    }

    public int forTown(int town, int what) {
        if (!isTown(town) || what < 0 || what > 1) {
            return NO_WORTH;
        }
        int night = findFlip(town);
        return what == 0 ? night : worthOf(town, colds, flipped(night));
    }

    public int heaviest(int what) {
        if (what < 0 || what > 1) {
            return NO_WORTH;
        }
        int heaviest = NONE;
        int most = 0;
        for (int i = 0; i < here && i < USERS; i++) {
            int sum = sumOf(crowd[i], colds, nights);
            if (heaviest == NONE || Math.abs(sum) > Math.abs(most)) {
                heaviest = i;
                most = sum;
            }
        }
        return what == 0 ? heaviest : most;
    }

    // There are too many shares to try: from the last NIGHT back, what can be
    // had from a NIGHT on depends on its TOWN and RUN alone.
    private int findBest() {
        fillLimits();
        for (int i = NIGHTS - 1; i >= 0; i--) {
            fillAhead(i, 0);
            fillAhead(i, 1);
        }
        int share = 0;
        int town = NONE;
        int run = 0;
        for (int i = 0; i < NIGHTS; i++) {
            int next = aheadBehind(i, 0, town, run) >= aheadBehind(i, 1, town, run) ? 0 : 1;
            run = next == town ? run + 1 : 1;
            town = next;
            share |= town << i;
        }
        return share;
    }

    private void fillLimits() {
        for (int i = 0; i < NIGHTS; i++) {
            limits[i * TOWNS] = mostOf(i, 0);
            limits[i * TOWNS + 1] = mostOf(i, 1);
        }
    }

    // RUNS that are too long stay out: aheadBehind() asks for none of them.
    private void fillAhead(int night, int town) {
        int longest = Math.min(night + 1, limits[night * TOWNS + town]);
        for (int run = 1; run <= longest; run++) {
            int sum = allAt(night, town, run);
            if (night + 1 < NIGHTS) {
                sum += Math.max(aheadBehind(night + 1, 0, town, run), aheadBehind(night + 1, 1, town, run));
            }
            ahead[placeAhead(night, town, run)] = sum;
        }
    }

    // The most that can be had from a NIGHT on, were it that TOWN's, behind one
    // of TOWN `before` (NONE ahead of NIGHT 0) with RUN `runBefore`.
    private int aheadBehind(int night, int town, int before, int runBefore) {
        int run = town == before ? runBefore + 1 : 1;
        if (run > limits[night * TOWNS + town]) {
            return UNLAWFUL;
        }
        return ahead[placeAhead(night, town, run)];
    }

    private static int placeAhead(int night, int town, int run) {
        return (night * TOWNS + town) * NIGHTS + bounded(run, 1, NIGHTS) - 1;
    }

    private int allAt(int night, int town, int run) {
        Text by = textAt(rule);
        int sum = 0;
        for (int i = 0; i < here && i < USERS; i++) {
            sum += hasAt(crowd[i], by, colds, night, town, run);
        }
        return sum;
    }

    private static int cutShare(int n, int first) {
        int below = (1 << n) - 1;
        return first == 1 ? below : ALL_NIGHTS & ~below;
    }

    private int apartBy(int share) {
        return Math.abs(worthOf(0, colds, share) - worthOf(1, colds, share));
    }

    private int findFlip(int whose) {
        int found = NONE;
        int most = worthOf(whose, colds, nights);
        for (int i = 0; i < NIGHTS; i++) {
            int then = worthOf(whose, colds, flipped(i));
            if (then > most) {
                most = then;
                found = i;
            }
        }
        return found;
    }

    // THE SHARE, were that NIGHT the other TOWN's; as it is for NONE.
    private int flipped(int night) {
        return isNight(night) ? nights ^ (1 << night) : nights;
    }

    // ---- nights that were told

    public int tells(int sheet, int user, int what) {
        if (!isSheet(sheet) || !isUser(user) || what < 0 || what > 5) {
            return BAD;
        }
        Sheet row = sheets[sheet];
        if (row.isMissing()) {
            return NOTHING;
        }
        if (row.size > NIGHTS) {
            return BAD;
        }
        switch (what) {
            case 0: return firstOtherwise(row, crowd[user], textAt(rule), nights);
            case 4: return textsTold(row, crowd[user]);
            case 5: return nightsTold(row, crowd[user]);
            default: return usersTold(row, crowd[user], what);
        }
    }

    private int firstOtherwise(Sheet row, User user, Text by, int share) {
        int run = 0;
        for (int i = 0; i < row.size && i < NIGHTS; i++) {
            run = runBehind(share, i, run);
            if (row.items[i] != hasAt(user, by, colds, i, townOf(share, i), run)) {
                return i;
            }
        }
        return NONE;
    }

    // KINDS (what 1), NUMBERS (2), TOWNS (3).
    private int usersTold(Sheet row, User user, int what) {
        int many = what == 1 ? KINDS : what == 2 ? DIGITS : TOWNS;
        int bits = 0;
        for (int i = 0; i < many; i++) {
            guess.become(what == 1 ? i : user.kind, what == 2 ? i : user.number, what == 3 ? i : user.town);
            if (firstOtherwise(row, guess, textAt(rule), nights) == NONE) {
                bits |= 1 << i;
            }
        }
        return bits;
    }

    private int textsTold(Sheet row, User user) {
        int bits = 0;
        for (int i = 0; i < textsRead; i++) {
            if (firstOtherwise(row, user, textAt(i), nights) == NONE) {
                bits |= 1 << i;
            }
        }
        return bits;
    }

    private int nightsTold(Sheet row, User user) {
        int bits = 0;
        for (int i = 0; i < row.size && i < NIGHTS; i++) {
            if (firstOtherwise(row, user, textAt(rule), flipped(i)) == NONE) {
                bits |= 1 << i;
            }
        }
        return bits;
    }

    public int film(int sheet, int user, int n) {
        if (!isSheet(sheet) || !isUser(user) || n < 0 || n > NIGHTS) {
            return BAD;
        }
        sheets[sheet].become(SHORTS, n);
        int run = 0;
        for (int i = 0; i < n; i++) {
            run = runBehind(nights, i, run);
            sheets[sheet].put(i, hasAt(crowd[user], textAt(rule), colds, i, townOf(nights, i), run));
        }
        return n;
    }

    public int drawn(int seed) {
        drawColds(seed);
        return worthOf(ALL, drawnColds, nights);
    }

    public long chance(int seed, int n, int part) {
        if (n < 1 || n > MOST_SEEDS || part < 0 || part > 1) {
            return NO;
        }
        int count = 0;
        for (int i = 0; i < n; i++) {
            drawColds(seed + i);
            if (worthOf(0, drawnColds, nights) > worthOf(1, drawnColds, nights)) {
                count++;
            }
        }
        return lowest(count, n, part);
    }

    private void drawColds(int seed) {
        int z = seed;
        for (int i = 0; i < NIGHTS; i++) {
            z = z * 1103515245 + 12345;
            drawnColds[i] = (z >>> 9) % 10;
        }
    }

    public int image() {
        kept.there = true;
        System.arraycopy(colds, 0, kept.colds, 0, NIGHTS);
        kept.nights = nights;
        kept.rule = rule;
        kept.here = here;
        for (int i = 0; i < USERS; i++) {
            kept.numbers[i] = crowd[i].number;
            kept.towns[i] = crowd[i].town;
        }
        return here;
    }

    public int back() {
        if (!kept.there) {
            return STATE;
        }
        System.arraycopy(kept.colds, 0, colds, 0, NIGHTS);
        nights = kept.nights;
        rule = kept.rule;
        here = kept.here;
        for (int i = 0; i < USERS; i++) {
            crowd[i].number = kept.numbers[i];
            crowd[i].town = kept.towns[i];
        }
        return here;
    }

    public int count(int what) {
        switch (what) {
            case 0: return here;
            case 1: return usersOfTownOne();
            case 2: return textsRead;
            case 3: return reader.size;
            case 4: return rule;
            case 5: return coldTogether();
            default: return BAD;
        }
    }

    private int usersOfTownOne() {
        int sum = 0;
        for (int i = 0; i < here && i < USERS; i++) {
            sum += crowd[i].town;
        }
        return sum;
    }

    private int coldTogether() {
        int sum = 0;
        for (int i = 0; i < NIGHTS; i++) {
            sum += colds[i];
        }
        return sum;
    }

    // ---- the host

    public int sheet(int sheet, int sort, int n) {
        if (!isSheet(sheet) || sort != MISSING && !isSort(sort)) {
            return BAD;
        }
        if (sort == MISSING) {
            sheets[sheet].become(MISSING, 0);
            return 1;
        }
        if (n > SHEET_ITEMS) {
            return BAD;
        }
        if (n < 0) {
            return BELOW;
        }
        sheets[sheet].become(sort, n);
        return 1;
    }

    public int cell(int sheet, int i, int v) {
        if (!isSheet(sheet)) {
            return BAD;
        }
        Sheet row = sheets[sheet];
        if (row.isMissing()) {
            return NOTHING;
        }
        if (i < 0 || i >= row.size) {
            return OUTSIDE;
        }
        row.put(i, v);
        return 1;
    }

    public int copy(int sheet, int i, int other, int j, int n) {
        if (!isSheet(sheet) || !isSheet(other)) {
            return BAD;
        }
        Sheet from = sheets[sheet];
        Sheet to = sheets[other];
        if (from.isMissing() || to.isMissing()) {
            return NOTHING;
        }
        if (from.sort != to.sort) {
            return UNLIKE;
        }
        if (!from.holds(i, n) || !to.holds(j, n)) {
            return OUTSIDE;
        }
        // arraycopy takes the numbers as they were, also within one row.
        System.arraycopy(from.items, i, to.items, j, n);
        return n;
    }

    public int users(int sheet, int sort, int from, int n) {
        if (!isSheet(sheet) || !isSort(sort) || n < 0 || n > USERS) {
            return BAD;
        }
        Sheet row = sheets[sheet];
        // A missing SHEET passes for one of any sort, as null does for any class.
        if (!row.isMissing() && row.sort != sort) {
            return UNLIKE;
        }
        if (row.isMissing()) {
            return NOTHING;
        }
        int came = 0;
        int at = from;
        for (int i = 0; i < n; i++) {
            if (!row.holds(at, 3)) {
                return OUTSIDE;
            }
            if (user(row.items[at], row.items[at + 1], row.items[at + 2]) >= 0) {
                came++;
            }
            at += 3;
        }
        return came;
    }

    public int taken(int user, int k) {
        if (!isKind(k)) {
            return BAD;
        }
        if (!isUser(user)) {
            return NOTHING;
        }
        return isUnder(crowd[user].kind, k) ? crowd[user].number : UNLIKE;
    }

    // Whether a KIND is that other one or stands under it.
    private static boolean isUnder(int kind, int other) {
        int k = kind;
        for (int i = 0; i < KINDS && k >= 0 && k < KINDS; i++) {
            if (k == other) {
                return true;
            }
            k = ABOVE[k];
        }
        return false;
    }

    private static final class User {
        int kind = USER;
        int number = 0;
        int town = 0;

        void become(int newKind, int newNumber, int newTown) {
            kind = newKind;
            number = newNumber;
            town = newTown;
        }

        int ofWinter(int v, int cold, int run) {
            int sport = run >= 2 ? 2 * v : v;
            int sick = cold > 4 ? -v : 0;
            switch (kind) {
                case SPORT: return sport;
                case SICK: return sick;
                case SLEIGH: return cold > 6 ? sport + number : sport;
                case OLD: return 2 * sick;
                case SHIP: return -cold;
                default: return v;
            }
        }

        int ofMild(int v) {
            switch (kind) {
                case SPORT: return 0;
                case SLEIGH: return -number;
                case OLD: return v + number;
                case SHIP: return v + 2;
                default: return v;
            }
        }
    }

    private static final class Image {
        boolean there = false;
        final int[] colds = new int[NIGHTS];
        int nights = 0;
        int rule = 0;
        int here = 0;
        final int[] numbers = new int[USERS];
        final int[] towns = new int[USERS];
    }

    private static final class Sheet {
        int sort = MISSING;
        int size = 0;
        final int[] items = new int[SHEET_ITEMS];

        boolean isMissing() {
            return sort == MISSING;
        }

        void become(int newSort, int n) {
            sort = newSort;
            size = bounded(n, 0, SHEET_ITEMS);
            for (int i = 0; i < SHEET_ITEMS; i++) {
                items[i] = 0;
            }
        }

        // Without i + n, which could wrap.
        boolean holds(int i, int n) {
            return i >= 0 && n >= 0 && i <= size && n <= size - i;
        }

        void put(int i, int v) {
            if (i < 0 || i >= size) {
                return;
            }
            items[i] = sort == BYTES ? (byte) v : sort == SHORTS ? (short) v : v;
        }
    }

    // A TEXT as codes in the order in which they are done, operands first.
    private static final class Text {
        private final int[] codes = new int[TAPE];
        private final int[] ends = new int[PARTS];
        private int made = 0;

        void clear() {
            made = 0;
        }

        void writeFirst() {
            add(-1 - COLD);
            endPart(GAINS);
            add(1);
            endPart(MILD);
            add(9);
            endPart(MOST);
        }

        boolean add(int code) {
            if (made >= codes.length) {
                return false;
            }
            codes[made] = code;
            made++;
            return true;
        }

        void endPart(int part) {
            if (part >= 0 && part < PARTS) {
                ends[part] = made;
            }
        }

        int valueOf(int part, int[] names, int[] stack) {
            int from = part > 0 && part < PARTS ? ends[part - 1] : 0;
            int to = part >= 0 && part < PARTS ? ends[part] : 0;
            int top = 0;
            for (int i = from; i < to && i < codes.length; i++) {
                int code = codes[i];
                if (code <= OR && code >= TIMES) {
                    if (top < 2) {
                        return 0;
                    }
                    top--;
                    stack[top - 1] = joined(code, stack[top - 1], stack[top]);
                } else if (code == NOT || code == NEGATE) {
                    if (top < 1) {
                        return 0;
                    }
                    int v = stack[top - 1];
                    stack[top - 1] = code == NEGATE ? -v : v == 0 ? 1 : 0;
                } else {
                    if (top >= stack.length) {
                        return 0;
                    }
                    stack[top] = operand(code, names);
                    top++;
                }
            }
            return top > 0 ? stack[top - 1] : 0;
        }

        private static int operand(int code, int[] names) {
            if (code >= 0) {
                return code;
            }
            int name = -1 - code;
            return name < names.length ? names[name] : 0;
        }

        private static int joined(int code, int a, int b) {
            switch (code) {
                case OR: return a != 0 || b != 0 ? 1 : 0;
                case AND: return a != 0 && b != 0 ? 1 : 0;
                case LESS: return a < b ? 1 : 0;
                case SAME: return a == b ? 1 : 0;
                case PLUS: return a + b;
                case MINUS: return a - b;
                case TIMES: return a * b;
                default: return 0;
            }
        }
    }

    // THE TAPE, and how a TEXT is read from it: first all TOKENS, then their order.
    private static final class Reader {
        private final int[] tape = new int[TAPE];
        int size = 0;
        int fault = 0;

        // One TOKEN more than bytes: the end.
        private final int[] sorts = new int[TAPE + 1];
        private final int[] values = new int[TAPE + 1];
        private final int[] places = new int[TAPE + 1];
        private int tokens = 0;
        private int at = 0;
        private Text into = null;

        boolean comesBehind(int letter) {
            if (size >= TAPE) {
                return false;
            }
            tape[size] = letter;
            size++;
            return true;
        }

        // Whether THE TAPE is a TEXT; if not, `fault` is its FAULT.
        boolean readsInto(Text text) {
            if (text == null) {
                return false;
            }
            text.clear();
            into = text;
            scan();
            at = 0;
            fault = 0;
            return part(T_GAINS, GAINS) && part(T_MILD, MILD) && part(T_MOST, MOST) && take(T_END);
        }

        private void scan() {
            tokens = 0;
            int next = 0;
            for (int i = 0; i < size && i < TAPE; i++) {
                boolean blank = tape[i] == ' ' || tape[i] == '\n';
                if (i >= next && !blank) {
                    next = scanToken(i);
                }
            }
            addToken(T_END, 0, size);
        }

        // Answers the place behind the TOKEN.
        private int scanToken(int from) {
            int b = byteAt(from);
            if (b >= 'a' && b <= 'z') {
                int to = endOf(from, 'a', 'z');
                int name = nameOf(from, to);
                addToken(name == NONE ? keyOf(from, to) : T_NAME, -1 - name, from);
                return to;
            }
            if (b >= '0' && b <= '9') {
                int to = endOf(from, '0', '9');
                boolean fits = to - from <= NUMBER_DIGITS;
                addToken(fits ? T_NUMBER : T_WRONG, fits ? numberOf(from, to) : 0, from);
                return to;
            }
            addToken(isSign(b) ? b : T_WRONG, 0, from);
            return from + 1;
        }

        private int endOf(int from, int low, int high) {
            int to = from;
            while (to < TAPE && byteAt(to) >= low && byteAt(to) <= high) {
                to++;
            }
            return to;
        }

        private int numberOf(int from, int to) {
            int v = 0;
            for (int i = from; i < to; i++) {
                v = v * 10 + byteAt(i) - '0';
            }
            return v;
        }

        private int byteAt(int i) {
            return i >= 0 && i < size && i < TAPE ? tape[i] : NONE;
        }

        private static boolean isSign(int b) {
            return b == '(' || b == ')' || b == ';' || b == '+' || b == '-' || b == '*' || b == '<' || b == '=';
        }

        private int nameOf(int from, int to) {
            if (isWord("cold", from, to)) return COLD;
            if (isWord("night", from, to)) return NIGHT;
            if (isWord("number", from, to)) return NUMBER;
            if (isWord("run", from, to)) return RUN;
            if (isWord("town", from, to)) return TOWN;
            if (isWord("users", from, to)) return HOW_MANY;
            return NONE;
        }

        private int keyOf(int from, int to) {
            if (isWord("gains", from, to)) return T_GAINS;
            if (isWord("mild", from, to)) return T_MILD;
            if (isWord("most", from, to)) return T_MOST;
            if (isWord("or", from, to)) return T_OR;
            if (isWord("and", from, to)) return T_AND;
            if (isWord("not", from, to)) return T_NOT;
            return T_WRONG;
        }

        private boolean isWord(String word, int from, int to) {
            if (to - from != word.length()) {
                return false;
            }
            for (int i = 0; i < word.length(); i++) {
                if (byteAt(from + i) != word.charAt(i)) {
                    return false;
                }
            }
            return true;
        }

        private void addToken(int sort, int value, int place) {
            if (tokens >= sorts.length) {
                return;
            }
            sorts[tokens] = sort;
            values[tokens] = value;
            places[tokens] = place;
            tokens++;
        }

        private int sortNow() {
            return at >= 0 && at < tokens && at < sorts.length ? sorts[at] : T_END;
        }

        private boolean refuse() {
            fault = at >= 0 && at < tokens && at < places.length ? places[at] : size;
            return false;
        }

        private boolean take(int sort) {
            if (sortNow() != sort) {
                return refuse();
            }
            at++;
            return true;
        }

        private boolean write(int code) {
            return into != null && into.add(code) || refuse();
        }

        private boolean part(int key, int part) {
            if (!take(key) || !either(0) || !take(';')) {
                return false;
            }
            if (into != null) {
                into.endPart(part);
            }
            return true;
        }

        // E, AND, NOT, SUM, TERM, ONE; `open` counts what stands open, which
        // bounds how deep these call one another.
        private boolean either(int open) {
            if (!both(open)) {
                return false;
            }
            for (int i = 0; i < TAPE && sortNow() == T_OR; i++) {
                at++;
                if (!both(open) || !write(OR)) {
                    return false;
                }
            }
            return true;
        }

        private boolean both(int open) {
            if (!negated(open)) {
                return false;
            }
            for (int i = 0; i < TAPE && sortNow() == T_AND; i++) {
                at++;
                if (!negated(open) || !write(AND)) {
                    return false;
                }
            }
            return true;
        }

        private boolean negated(int open) {
            if (sortNow() != T_NOT) {
                return compared(open);
            }
            if (open >= OPEN_AT_ONCE) {
                return refuse();
            }
            at++;
            return negated(open + 1) && write(NOT);
        }

        private boolean compared(int open) {
            if (!sum(open)) {
                return false;
            }
            int sort = sortNow();
            if (sort != '<' && sort != '=') {
                return true;
            }
            at++;
            return sum(open) && write(sort == '<' ? LESS : SAME);
        }

        private boolean sum(int open) {
            if (!term(open)) {
                return false;
            }
            for (int i = 0; i < TAPE && (sortNow() == '+' || sortNow() == '-'); i++) {
                int code = sortNow() == '+' ? PLUS : MINUS;
                at++;
                if (!term(open) || !write(code)) {
                    return false;
                }
            }
            return true;
        }

        private boolean term(int open) {
            if (!one(open)) {
                return false;
            }
            for (int i = 0; i < TAPE && sortNow() == '*'; i++) {
                at++;
                if (!one(open) || !write(TIMES)) {
                    return false;
                }
            }
            return true;
        }

        private boolean one(int open) {
            int sort = sortNow();
            if (sort == T_NUMBER || sort == T_NAME) {
                return operandNow();
            }
            if (sort != '-' && sort != '(' || open >= OPEN_AT_ONCE) {
                return refuse();
            }
            at++;
            if (sort == '-') {
                return one(open + 1) && write(NEGATE);
            }
            return either(open + 1) && take(')');
        }

        private boolean operandNow() {
            if (at < 0 || at >= values.length || !write(values[at])) {
                return refuse();
            }
            at++;
            return true;
        }
    }
}
