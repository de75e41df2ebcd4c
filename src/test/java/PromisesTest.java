/** For each of the promises 1 to 29: ordinary calls, the edges that the document names, wrong ones. */
public final class PromisesTest {
    private static final Due DUE = new Due();
    private static final int ALL_NIGHTS = Winters.ALL_NIGHTS, LOW = Winters.LOW, HIGH = Winters.HIGH;

    public static void main(String[] args) {
        newObject();
        set();
        user();
        told();
        feed();
        text();
        textFaults();
        textOpens();
        textValues();
        force();
        has();
        hasBounds();
        worth();
        share();
        mean();
        best();
        settle();
        cut();
        change();
        forTown();
        heaviest();
        tells();
        film();
        drawn();
        chance();
        image();
        count();
        sheet();
        cell();
        copy();
        users();
        taken();
        DUE.end("PromisesTest");
    }

    // Reads items of a SHEET that no call reads plainly: by copying them one by one
    // to where they are told for a USER whose HAS is known to be otherwise.
    private static void isRow(OneWinter x, String what, int sheet, int user, int firstOtherwise) {
        DUE.is(what, x.tells(sheet, user, 0), firstOtherwise);
    }

    private static void newObject() {
        DUE.about("promise 1");
        OneWinter x = new OneWinter();
        DUE.is("count(0)", x.count(0), 0);
        DUE.is("count(1)", x.count(1), 0);
        DUE.is("count(2)", x.count(2), 1);
        DUE.is("count(3)", x.count(3), 0);
        DUE.is("count(4)", x.count(4), 0);
        DUE.is("count(5)", x.count(5), 150);
        DUE.is("told(9, 0)", x.told(9, 0), 0);
        for (int i = 0; i < 30; i++) {
            DUE.is("told(i, 1)", x.told(i, 1), 5);
            DUE.is("told(i, 5)", x.told(i, 5), i + 1);
            DUE.is("told(i, 6)", x.told(i, 6), 9);
        }
        for (int i = 0; i < 4; i++) {
            DUE.is("cell", x.cell(i, 0, 0), -11);
        }
        DUE.is("back", x.back(), OneWinter.STATE);
        OneWinter y = new OneWinter();
        x.user(0, 0, 0);
        x.set(1, 3, 9);
        DUE.is("another object", y.count(0), 0);
        DUE.is("another object", y.told(3, 1), 5);
    }

    private static void set() {
        DUE.about("promise 2");
        OneWinter x = Winters.with(0, 4, 1, 3, 7, 0);
        DUE.is("share", x.set(0, 0, 6), 0);
        DUE.is("of does not matter", x.set(0, LOW, ALL_NIGHTS), 6);
        DUE.is("share", x.set(0, HIGH, 0), ALL_NIGHTS);
        DUE.is("share", x.set(0, 0, ALL_NIGHTS + 1), -2);
        DUE.is("share", x.set(0, 0, -1), -2);
        DUE.is("share", x.set(0, 0, LOW), -2);
        DUE.is("share is as it was", x.told(0, 0), 0);
        DUE.is("cold", x.set(1, 29, 0), 5);
        DUE.is("cold", x.set(1, 29, 9), 0);
        DUE.is("cold", x.set(1, 29, 10), -2);
        DUE.is("cold", x.set(1, 29, -1), -2);
        DUE.is("cold", x.set(1, 30, 1), -2);
        DUE.is("cold", x.set(1, -1, 1), -2);
        DUE.is("cold is as it was", x.told(29, 1), 9);
        DUE.is("number", x.set(2, 0, 9), 4);
        DUE.is("number", x.set(2, 1, 0), 7);
        DUE.is("number", x.set(2, 2, 0), -2);
        DUE.is("number", x.set(2, -1, 0), -2);
        DUE.is("number", x.set(2, 0, 10), -2);
        DUE.is("number", x.set(2, 0, -1), -2);
        DUE.is("number is as it was", x.told(0, 2), 9);
        DUE.is("town", x.set(3, 0, 0), 1);
        DUE.is("town", x.set(3, 1, 1), 0);
        DUE.is("town", x.set(3, 2, 1), -2);
        DUE.is("town", x.set(3, 0, 2), -2);
        DUE.is("town", x.set(3, 0, -1), -2);
        DUE.is("town is as it was", x.told(0, 3), 0);
        DUE.is("what", x.set(4, 0, 0), -2);
        DUE.is("what", x.set(-1, 0, 0), -2);
        DUE.is("what", x.set(HIGH, LOW, LOW), -2);
    }

    private static void user() {
        DUE.about("promise 3");
        OneWinter x = new OneWinter();
        DUE.is("kind", x.user(-1, 0, 0), -2);
        DUE.is("kind", x.user(6, 0, 0), -2);
        DUE.is("number", x.user(0, -1, 0), -2);
        DUE.is("number", x.user(0, 10, 0), -2);
        DUE.is("town", x.user(0, 0, -1), -2);
        DUE.is("town", x.user(0, 0, 2), -2);
        DUE.is("none came", x.count(0), 0);
        for (int i = 0; i < 6; i++) {
            DUE.is("user", x.user(i, 9 - i, i & 1), i);
        }
        for (int i = 0; i < 6; i++) {
            DUE.is("number", x.told(i, 2), 9 - i);
            DUE.is("town", x.told(i, 3), i & 1);
            DUE.is("kind", x.told(i, 4), i);
        }
        DUE.is("full", x.user(0, 0, 0), -4);
        DUE.is("bad is ahead of full", x.user(6, 0, 0), -2);
        DUE.is("six", x.count(0), 6);
    }

    private static void told() {
        DUE.about("promise 4");
        OneWinter x = Winters.with(2, 3, 1);
        x.set(0, 0, 0b1110011);
        DUE.is("share", x.told(LOW, 0), 0b1110011);
        DUE.is("cold", x.told(0, 1), 5);
        DUE.is("cold", x.told(30, 1), -2);
        DUE.is("cold", x.told(-1, 1), -2);
        DUE.is("number", x.told(0, 2), 3);
        DUE.is("number", x.told(1, 2), -2);
        DUE.is("town", x.told(0, 3), 1);
        DUE.is("town", x.told(-1, 3), -2);
        DUE.is("kind", x.told(0, 4), 2);
        DUE.is("kind", x.told(1, 4), -2);
        int[] runs = {1, 2, 1, 2, 1, 2, 3, 1, 2};
        for (int i = 0; i < runs.length; i++) {
            DUE.is("run of " + i, x.told(i, 5), runs[i]);
        }
        DUE.is("run", x.told(29, 5), 23);
        DUE.is("run", x.told(30, 5), -2);
        DUE.is("run", x.told(-1, 5), -2);
        DUE.is("most", x.told(30, 6), -2);
        DUE.is("most", x.told(-1, 6), -2);
        DUE.is("what", x.told(0, 7), -2);
        DUE.is("what", x.told(0, -1), -2);
        Winters.rule(x, "gains 1;mild 1;most 10*town+night+cold+users+number+run;");
        DUE.is("most", x.told(0, 6), 16);
        DUE.is("most", x.told(3, 6), 9);
        DUE.is("most", x.told(4, 6), 20);
        DUE.is("most, the bound", x.told(29, 6), 30);
        DUE.is("most of no user has no number", x.set(2, 0, 9), 3);
        DUE.is("most", x.told(3, 6), 9);
    }

    private static void feed() {
        DUE.about("promise 5");
        OneWinter x = new OneWinter();
        DUE.is("feed", x.feed(-1), -2);
        DUE.is("feed", x.feed(256), -2);
        DUE.is("feed", x.feed(LOW), -2);
        DUE.is("none came", x.count(3), 0);
        DUE.is("feed", x.feed(0), 1);
        DUE.is("feed", x.feed(255), 2);
        for (int i = 3; i <= 160; i++) {
            DUE.is("feed", x.feed(32), i);
        }
        DUE.is("full", x.feed(32), -4);
        DUE.is("bad is ahead of full", x.feed(256), -2);
        DUE.is("count", x.count(3), 160);
        DUE.is("the first byte begins none", x.text(), -100);
        DUE.is("feed", x.feed(32), 1);
    }

    private static void text() {
        DUE.about("promise 6");
        OneWinter x = Winters.with(0, 3, 0);
        DUE.is("an empty tape", x.text(), -100);
        String whole = "gains cold*2-number+run;mild 4-(night<9)*3;most 3-town;";
        DUE.is("text", Winters.textOf(x, whole), 1);
        DUE.is("the tape is empty", x.count(3), 0);
        DUE.is("texts", x.count(2), 2);
        DUE.is("the rule stays", x.count(4), 0);
        DUE.is("blanks", Winters.textOf(x, "\ngains\n  cold ;\n mild-1;most(1) ; \n"), 2);
        DUE.is("a fault", Winters.textOf(x, "gains cold; mild 1; most 9; ;"), -128);
        DUE.is("empty by a fault, too", x.count(3), 0);
        DUE.is("texts", x.count(2), 3);
        for (int i = 3; i <= 5; i++) {
            DUE.is("text", Winters.textOf(x, "gains 1;mild 1;most 1;"), i);
        }
        Winters.feedAll(x, "gains cold");
        DUE.is("full", x.text(), -4);
        DUE.is("the tape stays", x.count(3), 10);
        DUE.is("full again", x.text(), -4);
        DUE.is("texts", x.count(2), 6);
        OneWinter y = new OneWinter();
        StringBuilder long160 = new StringBuilder("gains 1;mild 1;most 1");
        while (long160.length() < 159) {
            long160.append("+1");
        }
        DUE.is("160 bytes", Winters.textOf(y, long160.append(";").toString()), 1);
        y.force(1);
        DUE.is("most", y.told(0, 6), 30);
        String grown = long160.substring(0, 159) + " ";
        DUE.is("160 bytes, ended too early", Winters.textOf(y, grown), -260);
    }

    private static void fault(String letters, int place) {
        OneWinter x = new OneWinter();
        DUE.is("text of \"" + letters + "\"", Winters.textOf(x, letters), -100 - place);
        DUE.is("no text came", x.count(2), 1);
        DUE.is("the tape is empty", x.count(3), 0);
    }

    private static void textFaults() {
        DUE.about("promise 6, faults");
        fault("   ", 3);
        fault("gains", 5);
        fault("gains cold", 10);
        fault("gains cold  ", 12);
        fault("gains cold;mild 1;most 9", 24);
        fault("mild 1;gains cold;most 9;", 0);
        fault("gains cold;most 9;", 11);
        fault("gains ;", 6);
        fault("gains gains;", 6);
        fault("gainscold;", 0);
        fault("gains  colder;", 7);
        fault("gains bold;", 6);
        fault("gains light;", 6);
        fault("gains runs;", 6);
        fault("gains nor 1;", 6);
        fault("rains 1;", 0);
        fault("gains cold cold;", 11);
        fault("gains cold 1;", 11);
        fault("gains 1cold;", 7);
        fault("gains 12345;", 6);
        fault("gains 1+00000;", 8);
        fault("gains 1 00000;", 8);
        fault("gains 1 < 2 < 3;", 12);
        fault("gains 1 = 2 = 3;", 12);
        fault("gains 1 < not 2;", 10);
        fault("gains 1 + not 2;", 10);
        fault("gains - not 2;", 8);
        fault("gains not;", 9);
        fault("gains or 1;", 6);
        fault("gains 1 or;", 10);
        fault("gains 1 and or 2;", 12);
        fault("gains 1 not 2;", 8);
        fault("gains (1;", 8);
        fault("gains 1);", 7);
        fault("gains ();", 7);
        fault("gains 1 + + 2;", 10);
        fault("gains * 2;", 6);
        fault("gains 1 ** 2;", 9);
        fault("gains 1 > 2;", 8);
        fault("gains 1\t;", 7);
        fault("gains 1\r\n;", 7);
        fault("gains 1 / 2;", 8);
        fault("Gains 1;", 0);
        fault("gains Cold;", 6);
        fault("gains cold;mild 1;most 9;x", 25);
        fault("gains cold;mild 1;most 9;(", 25);
        fault("gains cold;mild 1;most 9; \u00e9", 26);
        fault("gains cold;mild 1;most 9;gains", 25);
        fault("gains 1;mild x;most \u0000;", 13);
        OneWinter x = new OneWinter();
        DUE.is("four digits", Winters.textOf(x, "gains 9999;mild 0000;most 0001;"), 1);
    }

    private static void textOpens() {
        DUE.about("promise 6, what is open");
        fault("gains ((((((1))))));", 11);
        fault("gains ------1;", 11);
        fault("gains not not not not not not 1;", 26);
        fault("gains not(-(-((1))));", 13);
        fault("gains not(-(-(-1)));", 13);
        fault("gains ((((( not 1)))));", 12);
        fault("gains (((((1-(2))))));", 13);
        fault("gains (((((-1)))));", 11);
        OneWinter x = new OneWinter();
        DUE.is("five", Winters.textOf(x, "gains (((((1-2)))))+(((((2)))))*-----3;mild 1;most 1;"), 1);
        DUE.is("five", Winters.textOf(x, "gains not not not not not 1 and not not not not not 1;mild 1;most 1;"), 2);
        DUE.is("five", Winters.textOf(x, "gains not(-(-1))and not 1*((((2))))+-1;mild 1;most 1;"), 3);
        DUE.is("five", Winters.textOf(x, "gains ((((1)+(1))+(1))-((((3)))));mild not -(-(1));most 1;"), 4);
    }

    private static int value(String e) {
        OneWinter x = Winters.with(0, 7, 0, 1, 0, 1);
        x.set(1, 2, 8);
        Winters.rule(x, "gains " + e + ";mild 0;most 1;");
        return x.has(0, 2);
    }

    private static void textValues() {
        DUE.about("promise 6, values");
        DUE.is("cold", value("cold"), 8);
        DUE.is("night", value("night"), 2);
        DUE.is("number", value("number"), 7);
        DUE.is("run", value("run"), 3);
        DUE.is("town", value("town+5"), 5);
        DUE.is("users", value("users"), 2);
        DUE.is("sum", value("1-2-3+4"), 0);
        DUE.is("term", value("2+3*4-5*2"), 4);
        DUE.is("minus", value("-2*3"), -6);
        DUE.is("minus", value("2- -3"), 5);
        DUE.is("minus", value("2*-3*-1"), 6);
        DUE.is("minus", value("-(2-5)"), 3);
        DUE.is("less", value("2<3"), 1);
        DUE.is("less", value("3<3"), 0);
        DUE.is("less, below 0", value("-9999<0"), 1);
        DUE.is("same", value("1+2=3"), 1);
        DUE.is("same", value("2=3"), 0);
        DUE.is("or", value("0 or 7"), 1);
        DUE.is("or", value("0 or 0"), 0);
        DUE.is("or", value("-1 or 0"), 1);
        DUE.is("and", value("5 and 7"), 1);
        DUE.is("and", value("5 and 0"), 0);
        DUE.is("and", value("0 and 7"), 0);
        DUE.is("and", value("1 and 1"), 1);
        DUE.is("and binds more", value("1 or 0 and 0"), 1);
        DUE.is("and binds more", value("0 and 0 or 5"), 1);
        DUE.is("not", value("not 0"), 1);
        DUE.is("not", value("not 5"), 0);
        DUE.is("not", value("not not 5"), 1);
        DUE.is("not binds less than <", value("not 1<2"), 0);
        DUE.is("not binds less than =", value("not 2=0"), 1);
        DUE.is("not binds more than and", value("not 0 and 0"), 0);
        DUE.is("parentheses", value("(1 or 0)*9"), 9);
        DUE.is("parentheses", value("(2<3)+(3<4)+(5=5)"), 3);
        DUE.is("wrapping", value("9999*9999*9999=9999*(9999*9999)"), 1);
        DUE.is("wrapping", value("9999*9999*9999"), bounded(9999 * 9999 * 9999));
        DUE.is("wrapping", value("9999*9999*9999*2"), bounded(9999 * 9999 * 9999 * 2));
        DUE.is("wrapping", value("4096*4096*256"), 0);
        DUE.is("wrapping", value("4096*4096*128<0"), 1);
        DUE.is("a longer word", value("night+0*number"), 2);
    }

    private static int bounded(int v) {
        return Math.max(-99, Math.min(99, v));
    }

    private static void force() {
        DUE.about("promise 7");
        OneWinter x = Winters.with(0, 3, 0);
        DUE.is("no such text", x.force(1), -2);
        DUE.is("no such text", x.force(-1), -2);
        DUE.is("text 0", x.force(0), 0);
        Winters.textOf(x, "gains 3;mild 1;most 9;");
        Winters.textOf(x, "gains 4;mild 1;most 9;");
        DUE.is("force", x.force(2), 0);
        DUE.is("has", x.has(0, 0), 4);
        DUE.is("force", x.force(1), 2);
        DUE.is("has", x.has(0, 0), 3);
        DUE.is("no such text", x.force(3), -2);
        DUE.is("the rule", x.count(4), 1);
        DUE.is("force", x.force(0), 1);
        DUE.is("has", x.has(0, 0), 5);
    }

    private static void has() {
        DUE.about("promise 8");
        OneWinter x = Winters.with(0, 6, 0, 1, 6, 0, 2, 6, 0, 3, 6, 0, 4, 6, 0, 5, 6, 0);
        Winters.rule(x, "gains cold;mild 3;most 9;");
        // NIGHTS 0, 1 and 4, 5 are theirs, with RUN 1, 2 each.
        x.set(0, 0, 0b001100);
        x.set(1, 0, 7);
        x.set(1, 1, 7);
        x.set(1, 4, 4);
        x.set(1, 5, 6);
        int[][] due = {
            {7, 7, 3, 3, 4, 6},
            {7, 14, 0, 0, 4, 12},
            {-7, -7, 3, 3, 0, -6},
            {13, 20, -6, -6, 4, 12},
            {-14, -14, 9, 9, 0, -12},
            {-7, -7, 5, 5, -4, -6}};
        for (int u = 0; u < 6; u++) {
            for (int i = 0; i < 6; i++) {
                DUE.is("has(" + u + ", " + i + ")", x.has(u, i), due[u][i]);
            }
        }
        x.set(3, 3, 1);
        DUE.is("in the other town", x.has(3, 0), -6);
        DUE.is("in the other town", x.has(3, 3), 10);
        DUE.is("night", x.has(0, 30), -100000);
        DUE.is("night", x.has(0, -1), -100000);
        DUE.is("user", x.has(6, 0), -100000);
        DUE.is("user", x.has(-1, 0), -100000);
        DUE.is("user", new OneWinter().has(0, 0), -100000);
    }

    private static void hasBounds() {
        DUE.about("promise 8, bounds");
        OneWinter x = Winters.with(0, 6, 0, 1, 6, 0, 3, 9, 0, 4, 9, 1, 5, 0, 1);
        Winters.rule(x, "gains 100;mild 9999;most 99;");
        x.set(1, 1, 9);
        DUE.is("gains", x.has(0, 1), 99);
        DUE.is("gains", x.has(1, 1), 198);
        DUE.is("gains", x.has(2, 1), 207);
        DUE.is("mild", x.has(3, 1), 108);
        DUE.is("mild", x.has(4, 1), 101);
        DUE.is("most", x.told(1, 6), 30);
        Winters.rule(x, "gains 0-100;mild -9999;most 0;");
        DUE.is("gains", x.has(0, 1), -99);
        DUE.is("mild", x.has(3, 1), -90);
        DUE.is("most", x.told(1, 6), 1);
        Winters.rule(x, "gains 99;mild -99;most 30;");
        DUE.is("gains", x.has(0, 1), 99);
        DUE.is("mild", x.has(4, 1), -97);
        DUE.is("most", x.told(1, 6), 30);
        Winters.rule(x, "gains town*10+run;mild town*20+run+number;most -5;");
        DUE.is("gains", x.has(0, 4), 5);
        x.set(0, 0, 0b11000);
        DUE.is("mild", x.has(0, 4), 28);
        DUE.is("most", x.told(4, 6), 1);
    }

    private static void worth() {
        DUE.about("promise 9");
        OneWinter x = Winters.with(0, 0, 0, 1, 0, 1, 5, 0, 1);
        x.set(0, 0, 0b110);
        DUE.is("worth(0)", x.worth(0), 28 * 5 + 2);
        DUE.is("worth(1)", x.worth(1), 5 + 10 + 28 * 3 - 10);
        DUE.is("worth(2)", x.worth(2), 28 * 5 + 2 + 5 + 10 + 28 * 3 - 10);
        DUE.is("what", x.worth(3), -1000000);
        DUE.is("what", x.worth(-1), -1000000);
        DUE.is("no users", new OneWinter().worth(2), 0);
    }

    private static void share() {
        DUE.about("promise 10");
        OneWinter x = new OneWinter();
        DUE.is("too much", x.share(0), 0);
        DUE.is("too much", x.share(1), 9);
        DUE.is("longest", x.share(2), 30);
        DUE.is("town 1's", x.share(3), 0);
        x.set(0, 0, 1 << 9 | 1 << 19 | 1 << 29);
        DUE.is("lawful", x.share(0), 1);
        DUE.is("lawful", x.share(1), -1);
        DUE.is("longest", x.share(2), 9);
        DUE.is("town 1's", x.share(3), 3);
        x.set(0, 0, ALL_NIGHTS);
        DUE.is("town 1's", x.share(3), 30);
        Winters.rule(x, "gains 1;mild 1;most 1+29*town;");
        DUE.is("lawful", x.share(0), 1);
        x.set(0, 0, ALL_NIGHTS - (3 << 28));
        DUE.is("too much on the last", x.share(1), 29);
        DUE.is("longest", x.share(2), 28);
        DUE.is("what", x.share(4), -2);
        DUE.is("what", x.share(-1), -2);
    }

    private static void mean() {
        DUE.about("promise 11");
        OneWinter x = Winters.with(0, 0, 0, 2, 0, 0, 1, 0, 1, 3, 1, 1);
        x.set(1, 0, 4);
        DUE.is("above", x.mean(0, 0), 149);
        DUE.is("below", x.mean(0, 1), 30);
        DUE.is("above, below 0", x.mean(1, 0), -29);
        DUE.is("below", x.mean(1, 1), 6);
        DUE.is("0", x.mean(2, 0), 0);
        DUE.is("0", x.mean(2, 1), 1);
        DUE.is("whole", x.mean(3, 0), -1);
        DUE.is("whole", x.mean(3, 1), 1);
        DUE.is("user", x.mean(4, 0), OneWinter.NO);
        DUE.is("user", x.mean(-1, 0), OneWinter.NO);
        DUE.is("part", x.mean(0, 2), OneWinter.NO);
        DUE.is("part", x.mean(0, -1), OneWinter.NO);
    }

    private static void best() {
        DUE.about("promise 12");
        OneWinter x = new OneWinter();
        DUE.is("no users", x.best(0), 1 << 9 | 1 << 19 | 1 << 29);
        DUE.is("no users", x.best(1), 0);
        x = Winters.with(0, 0, 0, 0, 0, 1);
        Winters.rule(x, "gains 1;mild 1;most 1;");
        DUE.is("of like ones town 0 first", x.best(0), 0b101010101010101010101010101010);
        DUE.is("all", x.best(1), 60);
        Winters.rule(x, "gains 1;mild 1;most 30;");
        DUE.is("of like ones town 0 first", x.best(0), 0);
        Winters.rule(x, "gains (night<15)=town;mild 0;most 15;");
        DUE.is("bits", x.best(0), (1 << 15) - 1);
        DUE.is("all", x.best(1), 30);
        DUE.is("the share stays", x.told(0, 0), 0);
        OneWinter y = Winters.with(0, 0, 1);
        Winters.rule(y, "gains 5;mild 0;most 1+2*town;");
        int zeros = 1 << 2 | 1 << 6 | 1 << 10 | 1 << 14 | 1 << 18 | 1 << 22 | 1 << 26;
        DUE.is("three at once for town 1, one for town 0", y.best(0), ALL_NIGHTS - zeros);
        DUE.is("all", y.best(1), 23 * 5);
        y.set(3, 0, 0);
        Winters.rule(y, "gains 5;mild 0;most 3-2*town;");
        int ones = 1 << 3 | 1 << 7 | 1 << 11 | 1 << 15 | 1 << 19 | 1 << 23 | 1 << 27;
        DUE.is("one for town 1, three at once for town 0", y.best(0), ones);
        y.user(1, 0, 1);
        Winters.rule(y, "gains 4-(night=0)*9;mild 0;most 2+night*(night=3);");
        DUE.is("a best one is lawful", Winters.withShare(y, y.best(0)).share(0), 1);
        DUE.is("its worth", y.worth(2), y.best(1));
        DUE.is("what", x.best(2), -1000000);
        DUE.is("what", x.best(-1), -1000000);
    }

    private static void settle() {
        DUE.about("promise 13");
        OneWinter x = Winters.with(1, 0, 0, 0, 0, 1);
        int share = x.best(0);
        int all = x.best(1);
        DUE.is("settle", x.settle(), all);
        DUE.is("the share", x.told(0, 0), share);
        DUE.is("worth", x.worth(2), all);
        DUE.is("lawful", x.share(0), 1);
        DUE.is("again", x.settle(), all);
        OneWinter y = new OneWinter();
        DUE.is("no users", y.settle(), 0);
        DUE.is("no users", y.told(0, 0), 1 << 9 | 1 << 19 | 1 << 29);
    }

    private static void cut() {
        DUE.about("promise 14");
        OneWinter x = Winters.with(0, 0, 0, 0, 0, 1);
        DUE.is("cut", x.cut(0), 150);
        DUE.is("apart", x.cut(1), 0);
        x = Winters.with(0, 0, 1);
        Winters.rule(x, "gains 1;mild 0;most 9;");
        DUE.is("none is theirs, town 1 first", x.cut(0), 1);
        DUE.is("apart", x.cut(1), 0);
        Winters.rule(x, "gains 0-1;mild 5;most 9;");
        DUE.is("five", x.cut(0), 50);
        DUE.is("apart", x.cut(1), 0);
        x.set(3, 0, 0);
        DUE.is("of like ones the first", x.cut(0), 51);
        Winters.rule(x, "gains 0-(night<29);mild 30;most 9;");
        DUE.is("the last", x.cut(0), 290);
        DUE.is("apart", x.cut(1), 1);
        DUE.is("what", x.cut(2), -2);
        DUE.is("what", x.cut(-1), -2);
        DUE.is("no users", new OneWinter().cut(0), 0);
    }

    private static void change() {
        DUE.about("promise 15");
        OneWinter x = Winters.with(0, 0, 0);
        DUE.is("none", x.change(0), -1);
        DUE.is("as now", x.change(1), 150);
        DUE.is("no users", new OneWinter().change(0), -1);
        DUE.is("no users", new OneWinter().change(1), 0);
        x.user(1, 0, 1);
        x.set(0, 0, 0b1100);
        DUE.is("a night", x.change(0), bestNight(x, 2));
        DUE.is("of like ones the first", Winters.withShare(Winters.with(0, 0, 0), 0b1110).change(0), 1);
        DUE.is("the first night", Winters.withShare(Winters.with(0, 0, 0), 0b1111).change(0), 0);
        DUE.is("all then", Winters.withShare(Winters.with(0, 0, 0), 0b1110).change(1), 27 * 5 + 3 + 4);
        DUE.is("the share stays", x.told(0, 0), 0b1100);
        DUE.is("lawful or not", Winters.withShare(Winters.with(0, 0, 0), 1 << 9).change(0), 9);
        DUE.is("the last night", Winters.withShare(Winters.with(0, 0, 0), 1 << 29).change(0), 29);
        DUE.is("what", x.change(2), -1000000);
        DUE.is("what", x.change(-1), -1000000);
    }

    private static int bestNight(OneWinter x, int whose) {
        int now = x.told(0, 0);
        int most = x.worth(whose);
        int found = -1;
        for (int i = 0; i < 30; i++) {
            x.set(0, 0, now ^ 1 << i);
            if (x.worth(whose) > most) {
                most = x.worth(whose);
                found = i;
            }
        }
        x.set(0, 0, now);
        return found;
    }

    private static void forTown() {
        DUE.about("promise 16");
        OneWinter x = Winters.with(0, 0, 0, 1, 0, 1);
        x.set(1, 7, 9);
        DUE.is("town 0", x.forTown(0, 0), -1);
        DUE.is("as now", x.forTown(0, 1), 154);
        DUE.is("town 1", x.forTown(1, 0), 7);
        DUE.is("then", x.forTown(1, 1), 9);
        x.set(0, 0, 1 << 8);
        DUE.is("town 0", x.forTown(0, 0), 8);
        DUE.is("then", x.forTown(0, 1), 154);
        DUE.is("town 1", x.forTown(1, 0), 7);
        DUE.is("then", x.forTown(1, 1), 19);
        DUE.is("town", x.forTown(2, 0), -1000000);
        DUE.is("town", x.forTown(-1, 0), -1000000);
        DUE.is("what", x.forTown(0, 2), -1000000);
        DUE.is("what", x.forTown(0, -1), -1000000);
        DUE.is("the share stays", x.told(0, 0), 1 << 8);
    }

    private static void heaviest() {
        DUE.about("promise 17");
        DUE.is("none", new OneWinter().heaviest(0), -1);
        DUE.is("none", new OneWinter().heaviest(1), 0);
        OneWinter x = Winters.with(1, 0, 1, 0, 0, 0, 2, 0, 0);
        DUE.is("of like ones the first", x.heaviest(0), 1);
        DUE.is("what it has", x.heaviest(1), 150);
        x.user(4, 0, 0);
        DUE.is("without its sign", x.heaviest(0), 3);
        DUE.is("what it has, below 0", x.heaviest(1), -300);
        DUE.is("the first, though it has nothing", Winters.with(1, 0, 1).heaviest(0), 0);
        DUE.is("what", x.heaviest(2), -1000000);
        DUE.is("what", x.heaviest(-1), -1000000);
    }

    private static void tells() {
        DUE.about("promise 18");
        OneWinter x = Winters.with(3, 4, 0);
        Winters.textOf(x, "gains cold;mild 0-4;most 3;");
        Winters.textOf(x, "gains cold+(number=4)-1;mild 1;most 3;");
        x.set(1, 1, 8);
        x.set(0, 0, 0b100);
        // It has 5, 16 + 4, 0 - 4, 5, 10 ..
        Winters.row(x, 0, 1, 5, 20, -4, 5, 10);
        DUE.is("all so", x.tells(0, 0, 0), -1);
        DUE.is("kinds", x.tells(0, 0, 1), 1 << 3);
        DUE.is("numbers", x.tells(0, 0, 2), 1 << 4);
        DUE.is("towns", x.tells(0, 0, 3), 1);
        DUE.is("texts", x.tells(0, 0, 4), 0b111);
        DUE.is("nights", x.tells(0, 0, 5), 0);
        x.cell(0, 3, 6);
        DUE.is("otherwise", x.tells(0, 0, 0), 3);
        for (int what = 1; what <= 5; what++) {
            DUE.is("otherwise", x.tells(0, 0, what), 0);
        }
        Winters.row(x, 1, 2, 5, 20);
        DUE.is("numbers of few nights", x.tells(1, 0, 2), 1 << 4);
        Winters.row(x, 1, 2, 5);
        DUE.is("kinds of one night", x.tells(1, 0, 1), 0b1011);
        DUE.is("numbers of one night", x.tells(1, 0, 2), 1023);
        DUE.is("nights", x.tells(1, 0, 5), 0);
        OneWinter y = Winters.with(1, 0, 1);
        Winters.rule(y, "gains (cold=9)*5;mild 1;most 9;");
        Winters.row(y, 0, 0, 0, 0, 0);
        DUE.is("nights that leave all so", y.tells(0, 0, 5), 0b111);
        y.set(1, 1, 9);
        DUE.is("but one", y.tells(0, 0, 5), 0b101);
        y.cell(0, 1, 5);
        DUE.is("were it the other town's", y.tells(0, 0, 5), 0b010);
        DUE.is("texts", y.tells(0, 0, 4), 0);
        y.set(0, 0, 2);
        DUE.is("texts", y.tells(0, 0, 4), 0b10);
        y.set(1, 1, 5);
        Winters.row(y, 1, 0, 0, 5);
        DUE.is("texts", y.tells(1, 0, 4), 0b01);
        DUE.is("towns", y.tells(1, 0, 3), 0);
        DUE.is("numbers enter the rule", numbersByRule(), 0b11000);
        tellsRefusals();
    }

    private static int numbersByRule() {
        OneWinter x = Winters.with(0, 7, 0);
        Winters.rule(x, "gains number=3 or number=4;mild 1;most 9;");
        Winters.row(x, 2, 0, 1, 1, 1);
        return x.tells(2, 0, 2);
    }

    private static void tellsRefusals() {
        OneWinter x = Winters.with(0, 4, 0);
        DUE.is("sheet", x.tells(-1, 0, 0), -2);
        DUE.is("sheet", x.tells(4, 0, 0), -2);
        DUE.is("user", x.tells(0, 1, 0), -2);
        DUE.is("user", x.tells(0, -1, 0), -2);
        DUE.is("what", x.tells(0, 0, 6), -2);
        DUE.is("what", x.tells(0, 0, -1), -2);
        DUE.is("missing", x.tells(0, 0, 0), -11);
        x.sheet(0, 0, 31);
        DUE.is("more than 30", x.tells(0, 0, 0), -2);
        x.sheet(0, 0, 30);
        DUE.is("30", x.tells(0, 0, 0), 0);
        x.sheet(0, 2, 0);
        DUE.is("empty", x.tells(0, 0, 0), -1);
        DUE.is("empty", x.tells(0, 0, 1), 63);
        DUE.is("empty", x.tells(0, 0, 2), 1023);
        DUE.is("empty", x.tells(0, 0, 3), 3);
        DUE.is("empty", x.tells(0, 0, 4), 1);
        DUE.is("empty", x.tells(0, 0, 5), 0);
    }

    private static void film() {
        DUE.about("promise 19");
        OneWinter x = Winters.with(4, 9, 0, 3, 2, 1);
        x.set(0, 0, 0b110);
        DUE.is("film", x.film(2, 0, 30), 30);
        isRow(x, "it tells so", 2, 0, -1);
        DUE.is("it is shorts", x.users(2, 1, 0, 0), 0);
        DUE.is("of 30", x.cell(2, 30, 0), -12);
        DUE.is("film", x.film(2, 1, 3), 3);
        isRow(x, "it tells so", 2, 1, -1);
        DUE.is("of 3", x.cell(2, 3, 0), -12);
        DUE.is("film", x.film(2, 0, 0), 0);
        DUE.is("of none", x.cell(2, 0, 0), -12);
        x.film(3, 0, 4);
        DUE.is("sheet", x.film(4, 0, 0), -2);
        DUE.is("sheet", x.film(-1, 0, 0), -2);
        DUE.is("user", x.film(3, 2, 0), -2);
        DUE.is("user", x.film(3, -1, 0), -2);
        DUE.is("n", x.film(3, 0, 31), -2);
        DUE.is("n", x.film(3, 0, -1), -2);
        DUE.is("nothing changed", x.cell(3, 3, 0), 1);
        DUE.is("nothing changed", x.cell(3, 4, 0), -12);
    }

    private static int drawnCold(int seed, int night) {
        int z = seed;
        for (int i = 0; i <= night; i++) {
            z = z * 1103515245 + 12345;
        }
        return (z >>> 9) % 10;
    }

    private static void drawn() {
        DUE.about("promise 20");
        for (int seed : new int[] {0, 1, -7, HIGH, LOW, 123456789}) {
            OneWinter x = Winters.with(0, 0, 0, 2, 0, 0, 5, 0, 1);
            x.set(0, 0, 0b1011);
            int due = 0;
            for (int i = 0; i < 30; i++) {
                int c = drawnCold(seed, i);
                boolean of1 = (0b1011 >> i & 1) == 1;
                due += of1 ? 1 + 1 - c : c + (c > 4 ? -c : 0) + 3;
            }
            DUE.is("drawn(" + seed + ")", x.drawn(seed), due);
            DUE.is("the colds stay", x.count(5), 150);
        }
    }

    private static void chance() {
        DUE.about("promise 21");
        OneWinter x = Winters.with(0, 0, 0, 0, 0, 1);
        x.set(0, 0, 0b001100101010101010101010101010);
        for (int seed : new int[] {5, HIGH - 3, -12}) {
            for (int n = 1; n <= 20; n++) {
                int more = 0;
                for (int k = 0; k < n; k++) {
                    int apart = 0;
                    for (int i = 0; i < 30; i++) {
                        boolean of1 = (0b001100101010101010101010101010 >> i & 1) == 1;
                        apart += (of1 ? -1 : 1) * (drawnCold(seed + k, i) - 1);
                    }
                    more += apart > 0 ? 1 : 0;
                }
                int by = java.math.BigInteger.valueOf(more).gcd(java.math.BigInteger.valueOf(n)).intValue();
                DUE.is("above", x.chance(seed, n, 0), more / by);
                DUE.is("below", x.chance(seed, n, 1), n / by);
            }
        }
        OneWinter none = new OneWinter();
        DUE.is("none is more", none.chance(3, 20, 0), 0);
        DUE.is("none is more", none.chance(3, 20, 1), 1);
        OneWinter always = Winters.with(0, 0, 0);
        DUE.is("always", always.chance(3, 20, 0), 1);
        DUE.is("always", always.chance(3, 20, 1), 1);
        DUE.is("n", x.chance(0, 0, 0), OneWinter.NO);
        DUE.is("n", x.chance(0, 21, 0), OneWinter.NO);
        DUE.is("n", x.chance(0, LOW, 0), OneWinter.NO);
        DUE.is("part", x.chance(0, 1, 2), OneWinter.NO);
        DUE.is("part", x.chance(0, 1, -1), OneWinter.NO);
    }

    private static void image() {
        DUE.about("promises 22 and 23");
        OneWinter x = Winters.with(3, 4, 0, 1, 2, 1);
        DUE.is("none", x.back(), -3);
        x.set(1, 3, 8);
        x.set(0, 0, 77);
        Winters.textOf(x, "gains 3;mild 1;most 9;");
        x.force(1);
        DUE.is("image", x.image(), 2);
        x.set(1, 3, 0);
        x.set(0, 0, 0);
        x.set(2, 0, 9);
        x.set(3, 1, 0);
        x.user(0, 0, 0);
        Winters.textOf(x, "gains 4;mild 1;most 9;");
        x.force(2);
        x.feed(32);
        x.sheet(0, 0, 1);
        for (int twice = 0; twice < 2; twice++) {
            DUE.is("back", x.back(), 2);
            DUE.is("cold", x.told(3, 1), 8);
            DUE.is("share", x.told(0, 0), 77);
            DUE.is("number", x.told(0, 2), 4);
            DUE.is("town", x.told(1, 3), 1);
            DUE.is("kind", x.told(0, 4), 3);
            DUE.is("users that came since go", x.count(0), 2);
            DUE.is("rule", x.count(4), 1);
            DUE.is("texts stay", x.count(2), 3);
            DUE.is("the tape stays", x.count(3), 1);
            DUE.is("sheets stay", x.cell(0, 0, 0), 1);
            DUE.is("another user", x.user(5, 1, 1), 2);
            DUE.is("kind", x.told(2, 4), 5);
            x.set(0, 0, 5);
            x.force(0);
        }
        DUE.is("another image", x.image(), 3);
        x.set(2, 2, 7);
        DUE.is("back", x.back(), 3);
        DUE.is("share", x.told(0, 0), 5);
        DUE.is("number", x.told(2, 2), 1);
        DUE.is("rule", x.count(4), 0);
        OneWinter y = new OneWinter();
        DUE.is("an image of none", y.image(), 0);
        y.user(0, 0, 0);
        DUE.is("back", y.back(), 0);
        DUE.is("users", y.count(0), 0);
    }

    private static void count() {
        DUE.about("promise 24");
        OneWinter x = Winters.with(0, 0, 1, 0, 0, 0, 0, 0, 1);
        x.set(1, 0, 9);
        x.feed(1);
        x.feed(2);
        DUE.is("users", x.count(0), 3);
        DUE.is("of town 1", x.count(1), 2);
        DUE.is("texts", x.count(2), 1);
        DUE.is("tape", x.count(3), 2);
        DUE.is("rule", x.count(4), 0);
        DUE.is("cold", x.count(5), 154);
        OneWinter y = new OneWinter();
        y.image();
        y.user(0, 0, 1);
        y.back();
        y.user(0, 0, 0);
        y.user(0, 0, 1);
        y.back();
        DUE.is("those that went count no more", y.count(1), 0);
        DUE.is("what", x.count(6), -2);
        DUE.is("what", x.count(-1), -2);
    }

    private static void sheet() {
        DUE.about("promise 25");
        OneWinter x = Winters.with(1, 0, 1);
        DUE.is("sheet", x.sheet(-1, 0, 0), -2);
        DUE.is("sheet", x.sheet(4, 0, 0), -2);
        DUE.is("sort", x.sheet(0, -2, 0), -2);
        DUE.is("sort", x.sheet(0, 3, 0), -2);
        DUE.is("n", x.sheet(0, 0, 41), -2);
        DUE.is("n", x.sheet(0, 0, HIGH), -2);
        DUE.is("below 0", x.sheet(0, 0, -1), -14);
        DUE.is("below 0", x.sheet(0, 2, LOW), -14);
        DUE.is("sort is ahead", x.sheet(0, 3, -1), -2);
        DUE.is("still missing", x.cell(0, 0, 0), -11);
        DUE.is("40", x.sheet(3, 2, 40), 1);
        DUE.is("the last item", x.cell(3, 39, 7), 1);
        DUE.is("behind it", x.cell(3, 40, 7), -12);
        DUE.is("none", x.sheet(3, 1, 0), 1);
        DUE.is("no item", x.cell(3, 0, 7), -12);
        Winters.row(x, 1, 2, 5, 6, 7);
        x.sheet(1, 2, 3);
        isRow(x, "all 0", 1, 0, -1);
        DUE.is("missing", x.sheet(1, -1, LOW), 1);
        DUE.is("missing", x.cell(1, 0, 0), -11);
        x.sheet(1, 0, 2);
        DUE.is("missing, n does not matter", x.sheet(1, -1, 99), 1);
        DUE.is("missing", x.cell(1, 0, 0), -11);
    }

    private static void cell() {
        DUE.about("promise 26");
        OneWinter x = Winters.with(0, 0, 0);
        Winters.rule(x, "gains 0-56;mild 1;most 1;");
        DUE.is("missing", x.cell(0, 99, 0), -11);
        DUE.is("sheet", x.cell(4, 0, 0), -2);
        DUE.is("sheet", x.cell(-1, 0, 0), -2);
        Winters.row(x, 0, 0, 200, 0xabc8, -56);
        isRow(x, "the lowest 8 bits", 0, 0, -1);
        Winters.row(x, 0, 1, 65480, 0x3ffc8);
        isRow(x, "the lowest 16 bits", 0, 0, -1);
        Winters.row(x, 0, 1, -56, 200);
        isRow(x, "shorts keep 200", 0, 0, 1);
        Winters.row(x, 0, 2, -56, 65480);
        isRow(x, "ints keep 65480", 0, 0, 1);
        DUE.is("outside", x.cell(0, 2, 0), -12);
        DUE.is("outside", x.cell(0, -1, 0), -12);
        DUE.is("outside", x.cell(0, LOW, 0), -12);
        DUE.is("outside", x.cell(0, HIGH, 0), -12);
    }

    private static void copy() {
        DUE.about("promise 27");
        OneWinter x = Winters.with(0, 0, 0);
        Winters.rule(x, "gains night;mild 0;most 1;");
        Winters.row(x, 0, 2, 9, 0, 1, 2, 9);
        x.sheet(1, 2, 4);
        DUE.is("copy", x.copy(0, 1, 1, 0, 3), 3);
        x.cell(1, 3, 3);
        isRow(x, "copied", 1, 0, -1);
        Winters.row(x, 0, 2, 1, 2, 3, 4, 0);
        DUE.is("within itself, as they were", x.copy(0, 0, 0, 1, 4), 4);
        x.cell(0, 0, 0);
        isRow(x, "copied", 0, 0, -1);
        Winters.row(x, 0, 2, 9, 0, 1, 2, 3);
        DUE.is("within itself, as they were", x.copy(0, 1, 0, 0, 4), 4);
        x.cell(0, 4, 4);
        isRow(x, "copied", 0, 0, -1);
        DUE.is("none, at the end", x.copy(0, 5, 1, 4, 0), 0);
        DUE.is("none, behind the end", x.copy(0, 6, 1, 0, 0), -12);
        DUE.is("none, behind the end", x.copy(0, 0, 1, 5, 0), -12);
        DUE.is("outside", x.copy(0, 3, 1, 0, 3), -12);
        DUE.is("outside", x.copy(0, 0, 1, 2, 3), -12);
        DUE.is("outside", x.copy(0, -1, 1, 0, 1), -12);
        DUE.is("outside", x.copy(0, 0, 1, -1, 1), -12);
        DUE.is("outside", x.copy(0, 0, 1, 0, -1), -12);
        DUE.is("outside", x.copy(0, 1, 1, 1, HIGH), -12);
        DUE.is("outside", x.copy(0, HIGH, 1, HIGH, HIGH), -12);
        DUE.is("outside", x.copy(0, LOW, 1, LOW, LOW), -12);
        isRow(x, "nothing changed", 0, 0, -1);
        isRow(x, "nothing changed", 1, 0, -1);
        DUE.is("sheet", x.copy(4, 0, 0, 0, 0), -2);
        DUE.is("sheet", x.copy(0, 0, 4, 0, 0), -2);
        DUE.is("sheet", x.copy(-1, 0, 0, 0, 0), -2);
        DUE.is("sheet is ahead of missing", x.copy(2, 0, -1, 0, 0), -2);
        DUE.is("missing", x.copy(2, 0, 0, 0, 0), -11);
        DUE.is("missing", x.copy(0, 0, 2, 0, -1), -11);
        x.sheet(2, 1, 4);
        DUE.is("unlike", x.copy(0, 0, 2, 0, 1), -13);
        DUE.is("unlike is ahead of outside", x.copy(0, 0, 2, 0, -1), -13);
    }

    private static void users() {
        DUE.about("promise 28");
        OneWinter x = new OneWinter();
        Winters.row(x, 0, 0, 9, 3, 4, 1, 6, 0, 0, 5, 9, 0, 4, 1);
        DUE.is("users", x.users(0, 0, 1, 3), 2);
        DUE.is("kind", x.told(0, 4), 3);
        DUE.is("number", x.told(0, 2), 4);
        DUE.is("town", x.told(0, 3), 1);
        DUE.is("kind", x.told(1, 4), 5);
        DUE.is("number", x.told(1, 2), 9);
        DUE.is("what stood ahead came", x.users(0, 0, 1, 5), -12);
        DUE.is("what stood ahead came", x.count(0), 4);
        DUE.is("outside", x.users(0, 0, -1, 1), -12);
        DUE.is("outside", x.users(0, 0, 10, 1), -12);
        DUE.is("outside", x.users(0, 0, HIGH, 6), -12);
        DUE.is("outside", x.users(0, 0, LOW, 1), -12);
        DUE.is("none", x.users(0, 0, 0, 0), 0);
        DUE.is("the last three", x.users(0, 0, 9, 1), 1);
        DUE.is("sheet", x.users(4, 0, 0, 0), -2);
        DUE.is("sheet", x.users(-1, 0, 0, 0), -2);
        DUE.is("sort", x.users(0, 3, 0, 0), -2);
        DUE.is("sort", x.users(0, -1, 0, 0), -2);
        DUE.is("n", x.users(0, 0, 0, 7), -2);
        DUE.is("n", x.users(0, 0, 0, -1), -2);
        DUE.is("another sort", x.users(0, 1, 99, 1), -13);
        DUE.is("missing", x.users(1, 2, 99, 1), -11);
        Winters.row(x, 2, 2, 1, 1, 1, 2, 2, 0, 3, 3, 1, 4, 4, 0);
        DUE.is("the seventh is left out", x.users(2, 2, 0, 4), 1);
        DUE.is("six", x.count(0), 6);
        DUE.is("number", x.told(5, 2), 1);
        DUE.is("full, but outside", x.users(2, 2, 3, 4), -12);
        OneWinter y = new OneWinter();
        Winters.row(y, 0, 0, 256, 0, 0, 255, 0, 0);
        DUE.is("bytes are below 0, too", y.users(0, 0, 0, 2), 1);
    }

    private static void taken() {
        DUE.about("promise 29");
        OneWinter x = Winters.with(0, 3, 0, 1, 4, 0, 2, 5, 0, 3, 6, 0, 4, 7, 0, 5, 8, 0);
        int[] under = {0b000001, 0b000011, 0b000101, 0b001011, 0b010101, 0b100001};
        for (int u = 0; u < 6; u++) {
            for (int k = 0; k < 6; k++) {
                boolean is = (under[u] >> k & 1) == 1;
                DUE.is("taken(" + u + ", " + k + ")", x.taken(u, k), is ? u + 3 : -13);
            }
        }
        DUE.is("kind", x.taken(0, 6), -2);
        DUE.is("kind", x.taken(0, -1), -2);
        DUE.is("kind is ahead of user", x.taken(6, 6), -2);
        DUE.is("user", x.taken(6, 0), -11);
        DUE.is("user", x.taken(-1, 0), -11);
    }
}
