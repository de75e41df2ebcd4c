import java.util.function.Supplier;

/**
 * Each refused call: its answer, where two refusals meet the one that the call's
 * words name first, and that all is then as if the call had not been. Also
 * that calls which only ask change nothing.
 */
public final class RefusalsTest {
    private static final Due DUE = new Due();
    private static final int LOW = Winters.LOW, HIGH = Winters.HIGH;
    private static final int BAD = -2, STATE = -3, FULL = -4, NOTHING = -11, OUTSIDE = -12, UNLIKE = -13, BELOW = -14;
    private static final int NO_HAS = -100000, NO_WORTH = -1000000;
    private static final long NO = -4611686018427387904L;

    private interface Call {
        long on(OneWinter x);
    }

    public static void main(String[] args) {
        nightsAndUsers();
        texts();
        shares();
        whatWouldBeBest();
        nightsThatWereTold();
        host();
        whenFull();
        onlyAsked();
        DUE.end("RefusalsTest");
    }

    // ---- objects of which no two things are alike

    /** Three USERS; SHEET 0 missing, 1 of bytes, 2 of ints, 3 of 31 shorts; AN IMAGE; a TEXT begun. */
    private static OneWinter busy() {
        OneWinter x = Winters.with(1, 4, 0, 3, 6, 1, 4, 3, 0);
        x.set(1, 0, 9);
        x.set(1, 29, 0);
        x.image();
        Winters.rule(x, "gains cold+run;mild 2;most 4;");
        x.set(0, 0, 0b10011);
        x.set(1, 1, 7);
        x.set(2, 2, 8);
        x.set(3, 2, 1);
        x.film(2, 1, 30);
        x.sheet(3, 1, 31);
        x.copy(2, 0, 3, 0, 30);
        x.cell(3, 30, x.has(1, 0));
        fill(x, 1, 0, 5, 0);
        fill(x, 2, 2, 12, 2);
        Winters.feedAll(x, "gains 7;");
        return x;
    }

    private static void fill(OneWinter x, int sheet, int sort, int n, int user) {
        x.sheet(sheet, sort, n);
        for (int i = 0; i < n; i++) {
            x.cell(sheet, i, x.has(user, i));
        }
    }

    private static OneWinter sixUsers() {
        OneWinter x = busy();
        x.user(0, 1, 0);
        x.user(2, 0, 1);
        x.user(5, 9, 0);
        return x;
    }

    private static OneWinter sixTexts() {
        OneWinter x = Winters.with(0, 2, 0);
        for (int i = 1; i <= 5; i++) {
            Winters.textOf(x, "gains " + i + ";mild 0;most " + i + ";");
        }
        x.force(3);
        Winters.feedAll(x, "gains 7;");
        return x;
    }

    private static OneWinter fullTape() {
        OneWinter x = Winters.with(0, 2, 0);
        Winters.feedAll(x, "gains 1" + "+1".repeat(67) + ";mild 7;most 3    ;");
        return x;
    }

    // ---- how a refusal is looked at

    private static void refused(String call, long due, Call c) {
        refused(call, due, c, RefusalsTest::busy);
    }

    private static void refused(String call, long due, Call c, Supplier<OneWinter> maker) {
        OneWinter x = maker.get();
        DUE.is(call, c.on(x), due);
        unchanged(call, x, maker.get());
    }

    private static void unchanged(String call, OneWinter x, OneWinter twin) {
        String unlike = State.unlike(x, twin, "mild 1;most 2;");
        DUE.isTrue(call + " changed something: " + unlike, unlike.isEmpty());
    }

    // ---- nights, users

    private static void nightsAndUsers() {
        DUE.about("promise 2: BAD");
        for (int what : new int[] {LOW, -1, 4, HIGH}) {
            refused("set(what)", BAD, x -> x.set(what, 0, 0));
        }
        for (int v : new int[] {LOW, -1, 1 << 30, HIGH}) {
            refused("set(0, v)", BAD, x -> x.set(0, 0, v));
        }
        for (int night : new int[] {LOW, -1, 30, HIGH}) {
            refused("set(1, night)", BAD, x -> x.set(1, night, 1));
        }
        for (int user : new int[] {LOW, -1, 3, 6, HIGH}) {
            refused("set(2, user)", BAD, x -> x.set(2, user, 1));
            refused("set(3, user)", BAD, x -> x.set(3, user, 1));
        }
        for (int v : new int[] {LOW, -1, 10, HIGH}) {
            refused("set(1, cold)", BAD, x -> x.set(1, 0, v));
            refused("set(2, number)", BAD, x -> x.set(2, 0, v));
        }
        for (int v : new int[] {LOW, -1, 2, HIGH}) {
            refused("set(3, town)", BAD, x -> x.set(3, 0, v));
        }
        DUE.about("promise 3: BAD");
        for (int v : new int[] {LOW, -1, HIGH}) {
            refused("user(kind)", BAD, x -> x.user(v, 0, 0));
            refused("user(number)", BAD, x -> x.user(0, v, 0));
            refused("user(town)", BAD, x -> x.user(0, 0, v));
        }
        refused("user(6, 0, 0)", BAD, x -> x.user(6, 0, 0));
        refused("user(0, 10, 0)", BAD, x -> x.user(0, 10, 0));
        refused("user(0, 0, 2)", BAD, x -> x.user(0, 0, 2));
        DUE.about("promise 4: BAD");
        for (int what : new int[] {LOW, -1, 7, HIGH}) {
            refused("told(0, what)", BAD, x -> x.told(0, what));
        }
        for (int what : new int[] {1, 5, 6}) {
            for (int night : new int[] {LOW, -1, 30, HIGH}) {
                refused("told(night, " + what + ")", BAD, x -> x.told(night, what));
            }
        }
        for (int what : new int[] {2, 3, 4}) {
            for (int user : new int[] {LOW, -1, 3, 6, HIGH}) {
                refused("told(user, " + what + ")", BAD, x -> x.told(user, what));
            }
        }
    }

    // ---- texts

    private static void texts() {
        DUE.about("promise 5: BAD");
        for (int letter : new int[] {LOW, -1, 256, HIGH}) {
            refused("feed(letter)", BAD, x -> x.feed(letter));
        }
        DUE.about("promise 6: a FAULT");
        for (String rest : new String[] {"", "?", "mild 1;most", "mild 1;most 9;;", "mild ------1"}) {
            OneWinter x = busy();
            Winters.feedAll(x, rest);
            DUE.isTrue("a FAULT by " + rest, x.text() <= -100);
            OneWinter twin = busy();
            twin.text();
            DUE.is("its tape is empty", x.count(3), 0);
            String unlike = State.unlike(x, twin, "gains 3;mild 1;most 2;");
            DUE.isTrue("a FAULT changed something: " + unlike, unlike.isEmpty());
        }
        DUE.about("promise 7: BAD");
        for (int text : new int[] {LOW, -1, 2, 5, 6, HIGH}) {
            refused("force(text)", BAD, x -> x.force(text));
        }
    }

    // ---- shares

    private static void shares() {
        DUE.about("promise 8: -100000");
        for (int user : new int[] {LOW, -1, 3, 6, HIGH}) {
            refused("has(user, 0)", NO_HAS, x -> x.has(user, 0));
        }
        for (int night : new int[] {LOW, -1, 30, HIGH}) {
            refused("has(0, night)", NO_HAS, x -> x.has(0, night));
        }
        for (int what : new int[] {LOW, -1, 3, 4, HIGH}) {
            DUE.about("promise 9: -1000000");
            refused("worth(what)", NO_WORTH, x -> x.worth(what));
        }
        for (int what : new int[] {LOW, -1, 4, HIGH}) {
            DUE.about("promise 10: BAD");
            refused("share(what)", BAD, x -> x.share(what));
        }
        DUE.about("promise 11: NO");
        for (int user : new int[] {LOW, -1, 3, 6, HIGH}) {
            refused("mean(user, 0)", NO, x -> x.mean(user, 0));
            refused("mean(user, 1)", NO, x -> x.mean(user, 1));
        }
        for (int part : new int[] {LOW, -1, 2, HIGH}) {
            refused("mean(0, part)", NO, x -> x.mean(0, part));
        }
    }

    // ---- what would be best

    private static void whatWouldBeBest() {
        for (int what : new int[] {LOW, -1, 2, 3, HIGH}) {
            DUE.about("promise 12: -1000000");
            refused("best(what)", NO_WORTH, x -> x.best(what));
            DUE.about("promise 14: BAD");
            refused("cut(what)", BAD, x -> x.cut(what));
            DUE.about("promise 15: -1000000");
            refused("change(what)", NO_WORTH, x -> x.change(what));
            DUE.about("promise 16: -1000000");
            refused("forTown(0, what)", NO_WORTH, x -> x.forTown(0, what));
            refused("forTown(1, what)", NO_WORTH, x -> x.forTown(1, what));
            refused("forTown(town, 0)", NO_WORTH, x -> x.forTown(what, 0));
            refused("forTown(town, 1)", NO_WORTH, x -> x.forTown(what, 1));
            DUE.about("promise 17: -1000000");
            refused("heaviest(what)", NO_WORTH, x -> x.heaviest(what));
        }
    }

    // ---- nights that were told

    private static void nightsThatWereTold() {
        DUE.about("promise 18: BAD; -11; BAD");
        for (int sheet : new int[] {LOW, -1, 4, HIGH}) {
            refused("tells(sheet, 0, 0)", BAD, x -> x.tells(sheet, 0, 0));
        }
        for (int user : new int[] {LOW, -1, 3, 6, HIGH}) {
            refused("tells(1, user, 0)", BAD, x -> x.tells(1, user, 0));
            refused("tells(missing, user, 0)", BAD, x -> x.tells(0, user, 0));
        }
        for (int what : new int[] {LOW, -1, 6, HIGH}) {
            refused("tells(1, 0, what)", BAD, x -> x.tells(1, 0, what));
            refused("tells(missing, 0, what)", BAD, x -> x.tells(0, 0, what));
        }
        for (int what = 0; what <= 5; what++) {
            int w = what;
            refused("tells(missing, 0, " + w + ")", NOTHING, x -> x.tells(0, 0, w));
            refused("tells(31 numbers, 0, " + w + ")", BAD, x -> x.tells(3, 0, w));
        }
        DUE.about("promise 19: BAD");
        for (int sheet : new int[] {LOW, -1, 4, HIGH}) {
            refused("film(sheet, 0, 3)", BAD, x -> x.film(sheet, 0, 3));
        }
        for (int user : new int[] {LOW, -1, 3, 6, HIGH}) {
            refused("film(1, user, 3)", BAD, x -> x.film(1, user, 3));
            refused("film(missing, user, 3)", BAD, x -> x.film(0, user, 3));
        }
        for (int n : new int[] {LOW, -1, 31, 40, HIGH}) {
            refused("film(1, 0, n)", BAD, x -> x.film(1, 0, n));
        }
        DUE.about("promise 21: NO");
        for (int n : new int[] {LOW, -1, 0, 21, HIGH}) {
            refused("chance(0, n, 0)", NO, x -> x.chance(0, n, 0));
            refused("chance(0, n, 1)", NO, x -> x.chance(0, n, 1));
        }
        for (int part : new int[] {LOW, -1, 2, HIGH}) {
            refused("chance(0, 1, part)", NO, x -> x.chance(0, 1, part));
        }
        DUE.about("promise 23: STATE");
        refused("back()", STATE, OneWinter::back, OneWinter::new);
        refused("back()", STATE, OneWinter::back, RefusalsTest::fullTape);
        DUE.about("promise 24: BAD");
        for (int what : new int[] {LOW, -1, 6, HIGH}) {
            refused("count(what)", BAD, x -> x.count(what));
        }
    }

    // ---- the host

    private static void host() {
        DUE.about("promise 25: BAD; -14");
        for (int sheet : new int[] {LOW, -1, 4, HIGH}) {
            refused("sheet(sheet, 0, 3)", BAD, x -> x.sheet(sheet, 0, 3));
            refused("sheet(sheet, missing, 0)", BAD, x -> x.sheet(sheet, -1, 0));
            refused("sheet(sheet, 0, below 0)", BAD, x -> x.sheet(sheet, 0, -1));
        }
        for (int sort : new int[] {LOW, -2, 3, HIGH}) {
            refused("sheet(1, sort, 3)", BAD, x -> x.sheet(1, sort, 3));
            refused("sheet(1, sort, below 0)", BAD, x -> x.sheet(1, sort, -1));
        }
        for (int sort = 0; sort < 3; sort++) {
            int s = sort;
            for (int sheet : new int[] {0, 1}) {
                refused("sheet(" + sheet + ", " + s + ", 41)", BAD, x -> x.sheet(sheet, s, 41));
                refused("sheet(" + sheet + ", " + s + ", highest)", BAD, x -> x.sheet(sheet, s, HIGH));
                refused("sheet(" + sheet + ", " + s + ", -1)", BELOW, x -> x.sheet(sheet, s, -1));
                refused("sheet(" + sheet + ", " + s + ", lowest)", BELOW, x -> x.sheet(sheet, s, LOW));
            }
        }
        DUE.about("promise 26: BAD; -11; -12");
        for (int sheet : new int[] {LOW, -1, 4, HIGH}) {
            refused("cell(sheet, 0, 1)", BAD, x -> x.cell(sheet, 0, 1));
            refused("cell(sheet, -1, 1)", BAD, x -> x.cell(sheet, -1, 1));
        }
        for (int i : new int[] {LOW, -1, 0, 1, 40, HIGH}) {
            refused("cell(missing, i, 1)", NOTHING, x -> x.cell(0, i, 1));
        }
        for (int i : new int[] {LOW, -1, 31, 40, HIGH}) {
            refused("cell(1, i, 1)", OUTSIDE, x -> x.cell(1, i, 1));
            refused("cell(3, i, 1)", OUTSIDE, x -> x.cell(3, i, 1));
        }
        refused("cell(1, 5, 1)", OUTSIDE, x -> x.cell(1, 5, 1));
        refused("cell(2, 12, 1)", OUTSIDE, x -> x.cell(2, 12, 1));
        copies();
        usersBySheets();
        DUE.about("promise 29: BAD; -11; -13");
        for (int k : new int[] {LOW, -1, 6, HIGH}) {
            refused("taken(0, k)", BAD, x -> x.taken(0, k));
            refused("taken(no such, k)", BAD, x -> x.taken(3, k));
        }
        for (int user : new int[] {LOW, -1, 3, 6, HIGH}) {
            refused("taken(user, 0)", NOTHING, x -> x.taken(user, 0));
            refused("taken(user, 5)", NOTHING, x -> x.taken(user, 5));
        }
        refused("taken(a SPORT, SLEIGH)", UNLIKE, x -> x.taken(0, 3));
        refused("taken(a SLEIGH, SICK)", UNLIKE, x -> x.taken(1, 2));
    }

    private static void copies() {
        DUE.about("promise 27: BAD; -11; -13; -12");
        for (int sheet : new int[] {LOW, -1, 4, HIGH}) {
            refused("copy(sheet, to 1)", BAD, x -> x.copy(sheet, 0, 1, 0, 1));
            refused("copy(1, to sheet)", BAD, x -> x.copy(1, 0, sheet, 0, 1));
            refused("copy(sheet, to missing)", BAD, x -> x.copy(sheet, 0, 0, 0, 1));
            refused("copy(missing, to sheet)", BAD, x -> x.copy(0, 0, sheet, 0, 1));
            refused("copy(1, outside, to sheet)", BAD, x -> x.copy(1, -1, sheet, 0, -1));
        }
        refused("copy(missing, to 1)", NOTHING, x -> x.copy(0, 0, 1, 0, 1));
        refused("copy(1, to missing)", NOTHING, x -> x.copy(1, 0, 0, 0, 1));
        refused("copy(missing, to itself)", NOTHING, x -> x.copy(0, 0, 0, 0, 0));
        refused("copy(missing, outside)", NOTHING, x -> x.copy(0, -1, 1, 99, -1));
        refused("copy(1, outside, to missing)", NOTHING, x -> x.copy(1, 99, 0, 0, -1));
        refused("copy(bytes, to ints)", UNLIKE, x -> x.copy(1, 0, 2, 0, 1));
        refused("copy(ints, to bytes)", UNLIKE, x -> x.copy(2, 0, 1, 0, 1));
        refused("copy(ints, to shorts)", UNLIKE, x -> x.copy(2, 0, 3, 0, 1));
        refused("copy(shorts, to bytes)", UNLIKE, x -> x.copy(3, 0, 1, 0, 0));
        refused("copy(bytes, outside, to shorts)", UNLIKE, x -> x.copy(1, 99, 3, -1, -1));
        int[][] outside = {{-1, 0, 1}, {0, -1, 1}, {0, 0, -1}, {0, 0, 6}, {5, 0, 1}, {0, 5, 1}, {3, 0, 3}, {0, 3, 3},
            {6, 0, 0}, {0, 6, 0}, {-1, 0, 0}, {0, -1, 0}, {LOW, LOW, LOW}, {HIGH, HIGH, HIGH}, {1, 0, HIGH},
            {0, 1, HIGH}, {HIGH, 0, 1}, {0, HIGH, 1}, {LOW, 0, 1}, {0, LOW, 1}, {0, 0, LOW}, {5, 5, -1}, {-1, 0, 6}};
        for (int[] o : outside) {
            refused("copy(1, " + o[0] + ", 1, " + o[1] + ", " + o[2] + ")", OUTSIDE, x -> x.copy(1, o[0], 1, o[1], o[2]));
        }
    }

    private static void usersBySheets() {
        DUE.about("promise 28: BAD; -13; -11; -12");
        for (int sheet : new int[] {LOW, -1, 4, HIGH}) {
            refused("users(sheet, 0, 0, 1)", BAD, x -> x.users(sheet, 0, 0, 1));
            refused("users(sheet, 0, 0, 0)", BAD, x -> x.users(sheet, 0, 0, 0));
        }
        for (int sort : new int[] {LOW, -1, 3, HIGH}) {
            refused("users(1, sort, 0, 1)", BAD, x -> x.users(1, sort, 0, 1));
            refused("users(missing, sort, 0, 1)", BAD, x -> x.users(0, sort, 0, 1));
        }
        for (int n : new int[] {LOW, -1, 7, HIGH}) {
            refused("users(1, 0, 0, n)", BAD, x -> x.users(1, 0, 0, n));
            refused("users(missing, 0, 0, n)", BAD, x -> x.users(0, 0, 0, n));
            refused("users(1, of another sort, 0, n)", BAD, x -> x.users(1, 1, 0, n));
        }
        for (int n : new int[] {0, 1, 6}) {
            refused("users(bytes as shorts)", UNLIKE, x -> x.users(1, 1, 0, n));
            refused("users(bytes as ints, outside)", UNLIKE, x -> x.users(1, 2, -1, n));
            refused("users(ints as bytes)", UNLIKE, x -> x.users(2, 0, 0, n));
            refused("users(ints as shorts, outside)", UNLIKE, x -> x.users(2, 1, 99, n));
            refused("users(shorts as ints)", UNLIKE, x -> x.users(3, 2, 0, n));
            for (int sort = 0; sort < 3; sort++) {
                int s = sort;
                refused("users(missing, " + s + ")", NOTHING, x -> x.users(0, s, 0, n));
                refused("users(missing, " + s + ", outside)", NOTHING, x -> x.users(0, s, -1, n));
            }
        }
        for (int from : new int[] {LOW, -1, -3, 3, 4, 5, 6, HIGH - 2, HIGH}) {
            refused("users(1, 0, " + from + ", 1)", OUTSIDE, x -> x.users(1, 0, from, 1));
            refused("users(1, 0, " + from + ", 6)", OUTSIDE, x -> x.users(1, 0, from, 6));
        }
    }

    // ---- what is full

    private static void whenFull() {
        DUE.about("promise 3: FULL behind BAD");
        refused("a seventh user", FULL, x -> x.user(0, 0, 0), RefusalsTest::sixUsers);
        refused("a seventh user", FULL, x -> x.user(5, 9, 1), RefusalsTest::sixUsers);
        for (int v : new int[] {-1, 10}) {
            refused("a seventh user of no kind", BAD, x -> x.user(v, 0, 0), RefusalsTest::sixUsers);
            refused("a seventh user of no number", BAD, x -> x.user(0, v, 0), RefusalsTest::sixUsers);
            refused("a seventh user of no town", BAD, x -> x.user(0, 0, v), RefusalsTest::sixUsers);
        }
        DUE.about("promise 28: when six are there");
        refused("a seventh by a sheet", 0, x -> x.users(3, 1, 0, 6), RefusalsTest::sixUsers);
        refused("a seventh by a sheet, then outside", OUTSIDE, x -> x.users(3, 1, 27, 2), RefusalsTest::sixUsers);
        DUE.about("promise 5: FULL behind BAD");
        for (int letter : new int[] {0, ' ', 'g', 255}) {
            refused("a byte too many", FULL, x -> x.feed(letter), RefusalsTest::fullTape);
        }
        for (int letter : new int[] {-1, 256}) {
            refused("no byte, and too many", BAD, x -> x.feed(letter), RefusalsTest::fullTape);
        }
        DUE.about("promise 6: FULL, ahead of all");
        for (String rest : new String[] {"", "?", "mild 1;most 9;"}) {
            OneWinter x = sixTexts();
            OneWinter twin = sixTexts();
            Winters.feedAll(x, rest);
            Winters.feedAll(twin, rest);
            DUE.is("text", x.text(), FULL);
            DUE.is("the tape stays", x.count(3), 8 + rest.length());
            DUE.is("the next byte", x.feed(' '), twin.feed(' '));
            unchanged("a text too many", x, twin);
        }
        OneWinter x = sixTexts();
        DUE.is("force(5)", x.force(5), 3);
        DUE.is("force(6)", x.force(6), BAD);
    }

    // ---- what only asks

    private static void onlyAsked() {
        DUE.about("calls that only ask");
        OneWinter x = busy();
        for (int what = 0; what <= 5; what++) {
            x.told(1, what);
            x.worth(what);
            x.share(what);
            x.mean(1, what);
            x.best(what);
            x.cut(what);
            x.change(what);
            x.forTown(0, what);
            x.forTown(1, what);
            x.heaviest(what);
            x.tells(1, 0, what);
            x.tells(2, 2, what);
            x.drawn(what);
            x.chance(what, 7, what);
            x.count(what);
            x.taken(2, what);
            x.has(what, what);
        }
        unchanged("what only asks", x, busy());
        OneWinter y = busy();
        y.set(0, 0, y.told(0, 0));
        y.set(1, 1, y.told(1, 1));
        y.force(1);
        y.copy(1, 0, 1, 0, 5);
        y.copy(1, 2, 3, 0, 0);
        y.users(1, 0, 0, 0);
        unchanged("what leaves all as it was", y, busy());
    }
}
