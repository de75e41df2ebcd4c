import java.util.ArrayList;
import java.util.List;

/** The edges of TEXTS: THE TAPE, each place where a FAULT can lie, what is open, what an E is, its bounds. */
public final class TextEdgesTest {
    private static final Due DUE = new Due();
    private static final String[] KEYS = {"gains", "mild", "most", "or", "and", "not"};
    private static final String[] NAMES = {"cold", "night", "number", "run", "town", "users"};
    private static final String WHOLE = "gains 1;mild 1;most 1;";

    public static void main(String[] args) {
        tape();
        sixTexts();
        nothingLeft();
        emptyAndEarly();
        eachByte();
        words();
        numbers();
        blanks();
        whatCanStand();
        openByOpen();
        openTill();
        names();
        values();
        wrapping();
        bounds();
        DUE.end("TextEdgesTest");
    }

    private static void is(String letters, int answer) {
        OneWinter x = new OneWinter();
        Winters.feedAll(x, letters);
        DUE.is("text of \"" + letters + "\"", x.text(), answer);
        DUE.is("the tape, then", x.count(3), 0);
        DUE.is("texts, then", x.count(2), answer > 0 ? 2 : 1);
    }

    private static void fault(String letters, int place) {
        is(letters, -100 - place);
    }

    private static void early(String letters) {
        fault(letters, letters.length());
    }

    private static void good(String letters) {
        is(letters, 1);
    }

    // ---- THE TAPE (160 bytes at most), 6 TEXTS at most

    private static void tape() {
        DUE.about("THE TAPE, 160 bytes at most");
        OneWinter x = new OneWinter();
        for (int i = 1; i <= 160; i++) {
            DUE.is("byte " + i, x.feed(255), i);
        }
        DUE.is("byte 161", x.feed(255), -4);
        DUE.is("bytes", x.count(3), 160);
        DUE.is("a byte that begins none", x.text(), -100);
        DUE.is("it is empty then", x.count(3), 0);
        DUE.is("the first byte", x.feed(0), 1);
        good(" ".repeat(138) + WHOLE);
        good(WHOLE + "\n".repeat(138));
        good("gains 1;mild 1;most " + "1*".repeat(69) + "1;");
        fault(" ".repeat(159) + "x", 159);
        fault(" ".repeat(159) + "7", 159);
        early(" ".repeat(160));
        early(" ".repeat(155) + "gains");
        early("gains 1;mild 1;most " + "1*".repeat(70));
        early("gains 1;mild 1;most " + "1*".repeat(69) + "11");
        fault("gains 1;mild 1;most 1;" + " ".repeat(137) + ";", 159);
        fault(" ".repeat(155) + "12345", 155);
    }

    private static void sixTexts() {
        DUE.about("6 TEXTS at most, TEXT 0 with them");
        OneWinter x = Winters.with(0, 0, 0);
        for (int i = 1; i <= 5; i++) {
            DUE.is("a fault counts for none", Winters.textOf(x, "?"), -100);
            DUE.is("text " + i, Winters.textOf(x, "gains 1" + i + ";mild 1;most 1;"), i);
            DUE.is("texts", x.count(2), i + 1);
        }
        DUE.is("one more", Winters.textOf(x, WHOLE), -4);
        DUE.is("the tape stays", x.count(3), WHOLE.length());
        DUE.is("once more", x.text(), -4);
        int was = 0;
        for (int i = 5; i >= 0; i--) {
            DUE.is("force(" + i + ")", x.force(i), was);
            DUE.is("by text " + i, x.has(0, 0), i == 0 ? 5 : 10 + i);
            was = i;
        }
        DUE.is("force(6)", x.force(6), -2);
        DUE.is("force(-1)", x.force(-1), -2);
    }

    private static void nothingLeft() {
        DUE.about("THE TAPE, which is empty then (by a FAULT, too)");
        OneWinter x = new OneWinter();
        String[] longer = {"gains coldx", "gains 12345", "gains 1  2", "gains gainsgains", "mildgains 11111"};
        String[] then = {"gains cold", "gains 1234", "gains 1", "gains", "mild"};
        int[] due = {-110, -110, -107, -105, -100};
        for (int i = 0; i < longer.length; i++) {
            DUE.isTrue("a fault by " + longer[i], Winters.textOf(x, longer[i]) <= -100);
            DUE.is(then[i] + " behind " + longer[i], Winters.textOf(x, then[i]), due[i]);
        }
        DUE.is("behind all these", Winters.textOf(x, WHOLE), 1);
        DUE.is("behind a text", Winters.textOf(x, "gains 1;mild 1;most 1"), -121);
        DUE.about("nothing of a FAULT is in the next TEXT");
        OneWinter y = Winters.with(0, 0, 0, 0, 0, 1);
        for (String e : new String[] {"1-".repeat(70), "-(1+-(1-(1*", "not 1 and (1+(1<2*"}) {
            Winters.textOf(y, "gains 7;mild " + e);
        }
        DUE.is("a text", Winters.textOf(y, "gains cold" + "+1".repeat(30) + ";mild 3-run*2;most 7;"), 1);
        y.force(1);
        DUE.is("gains", y.has(0, 1), 35);
        DUE.is("mild", y.has(1, 1), -1);
        DUE.is("most", y.told(1, 6), 7);
    }

    // ---- FAULT

    private static void emptyAndEarly() {
        DUE.about("the text's size, if it ends too early");
        early("");
        early(" ");
        early("\n\n");
        String text = "gains (1 ) ;mild not 1 <2 ;most - 1 ;";
        for (int to = 0; to < text.length(); to++) {
            String begun = text.substring(0, to);
            // A WORD that is cut off is neither KEY nor NAME.
            int word = begun.length();
            while (word > 0 && Character.isLetter(begun.charAt(word - 1))) {
                word--;
            }
            boolean whole = word == to || isAny(begun.substring(word), KEYS);
            fault(begun, whole ? to : word);
        }
        good(text);
        for (String end : new String[] {"gains", "gains 1", "gains 1;", "gains 1;mild", "gains 1;mild 1", "gains 1;mild 1;",
            "gains 1;mild 1;most", "gains 1;mild 1;most 1", "gains 1+", "gains 1-", "gains 1*", "gains 1<", "gains 1=",
            "gains 1 or", "gains 1 and", "gains not", "gains -", "gains (", "gains (1", "gains ((1)", "gains (((((", "gains not not not not not"}) {
            early(end);
            early(end + " ");
            early(end + "\n  ");
        }
    }

    private static boolean isAny(String word, String[] all) {
        return List.of(all).contains(word);
    }

    private static void eachByte() {
        DUE.about("a byte that begins no TOKEN");
        for (int b = 0; b < 256; b++) {
            String c = String.valueOf((char) b);
            boolean blank = b == 32 || b == 10;
            boolean digit = b >= '0' && b <= '9';
            fault(c, blank ? 1 : 0);
            fault(c + "gains 1", blank ? 8 : 0);
            fault("gains " + c, blank || digit || b == '(' || b == '-' ? 7 : 6);
            boolean joins = b == '+' || b == '-' || b == '*' || b == '<' || b == '=' || b == ';';
            fault("gains 1" + c, blank || digit || joins ? 8 : 7);
            fault("gains (1" + c, blank || digit || joins && b != ';' || b == ')' ? 9 : 8);
            if (blank) {
                good(WHOLE + c);
                good(c + WHOLE);
            } else {
                fault(WHOLE + c, 22);
                fault(WHOLE + " " + c + " ", 23);
            }
        }
    }

    private static void words() {
        DUE.about("a WORD that is neither KEY nor NAME");
        for (String name : NAMES) {
            good("gains " + name + ";mild " + name + ";most " + name + ";");
            fault(name, 0);
            fault("gains 1 " + name, 8);
            fault("gains 1;" + name, 8);
            fault("gains 1;mild 1;" + name, 15);
            fault(WHOLE + name, 22);
            fault("gains " + name + "s", 6);
            fault("gains a" + name, 6);
            fault("gains " + name.substring(1), 6);
            fault("gains " + name.substring(0, name.length() - 1), 6);
            fault("gains " + name.substring(0, name.length() - 1) + "z;", 6);
            fault("gains z" + name.substring(1) + ";", 6);
            fault("gains " + name.toUpperCase(), 6);
            fault("gains " + name + "1", 6 + name.length());
            fault("gains 1" + name, 7);
        }
        for (String key : KEYS) {
            fault(key.equals("gains") ? "gainss" : key, 0);
            fault(WHOLE + key, 22);
            fault("gains 1;mild 1;most" + key, 15);
            fault("gains " + key + key, 6);
            if (!key.equals("not")) {
                fault("gains " + key + " 1;", 6);
                fault("gains (" + key + " 1);", 7);
                fault("gains 1+" + key + " 1;", 8);
            }
            if (!key.equals("and") && !key.equals("or")) {
                fault("gains 1 " + key + " 1;", 8);
                fault("gains (1) " + key + " 1;", 10);
            }
            if (!key.equals("mild")) {
                fault("gains 1;" + key + " 1;most 1;", 8);
            }
            if (!key.equals("most")) {
                fault("gains 1;mild 1;" + key + " 1;", 15);
            }
        }
        fault("gain 1;mild 1;most 1;", 0);
        fault("gains 1;milds 1;most 1;", 8);
        fault("gains 1;mild 1;mos 1;", 15);
        fault("gains1;mild 1;most 1", 20);
        good("gains1;mild1;most1;");
        good("gains(1)or(1)and(1);mild not(1);most-1;");
        fault("gains 1or2;mild 1;most 1;x", 25);
        fault("gains 1 or2cold;", 11);
        fault("gains 1 orcold;", 8);
        fault("gains notcold;", 6);
        good("gains not cold;mild not not cold;most not\ncold;");
    }

    private static void numbers() {
        DUE.about("NUMBERS of four digits and of five");
        good("gains 9999;mild 0000;most 0001;");
        fault("gains 10000;", 6);
        fault("gains 00000;", 6);
        fault("gains 99999;", 6);
        fault("gains 1234567890123;", 6);
        fault("gains 1+12345;", 8);
        fault("gains -12345;", 7);
        fault("gains (12345);", 7);
        fault("gains 1;mild 12345;", 13);
        fault("gains 1;mild 1;most 12345;", 20);
        fault("gains 1 2;", 8);
        fault("gains 1234 5;", 11);
        fault("gains 1 12345;", 8);
        fault("12345", 0);
        DUE.is("9999", answer("9999=9998+1"), 1);
        DUE.is("0009", answer("0009"), 9);
        DUE.is("0", answer("0"), 0);
    }

    private static void blanks() {
        DUE.about("blanks (32, 10) may stand between");
        good("\n \ngains \n1 \n; \nmild \n1 \n; \nmost \n1 \n; \n");
        good("gains ( - 1 ) * 2 < 3 or not 4 = 5 and 6 ; mild 1 ; most 1 ;");
        fault("ga ins 1;", 0);
        fault("gains co ld;", 6);
        fault("gains co\nld;", 6);
        for (char c : new char[] {9, 11, 12, 13, 0, 127, 128, 133, 160, 255}) {
            fault("gains" + c + "1;", 5);
            fault("gains 1" + c + ";", 7);
        }
    }

    private static void whatCanStand() {
        DUE.about("the first TOKEN that can't stand there");
        String[] ahead = {"1", "cold", "- 1", "(1)"};
        for (String one : ahead) {
            int n = 6 + one.length() + 1;
            for (String bad : new String[] {"1", "cold", "(", ")", "not", "gains", "mild", "most"}) {
                fault("gains " + one + " " + bad, n);
            }
        }
        for (String sign : new String[] {"+", "-", "*", "<", "="}) {
            for (String bad : new String[] {"+", "*", "<", "=", ")", ";", "not", "or", "and"}) {
                fault("gains 1 " + sign + " " + bad, 10);
            }
            early("gains 1 " + sign + " -");
            early("gains 1 " + sign + " (");
        }
        for (String first : new String[] {"<", "="}) {
            for (String second : new String[] {"<", "="}) {
                fault("gains 1" + first + "2" + second + "3;", 9);
                fault("gains 1" + first + "2+3*4" + second + "3;", 13);
                fault("gains (1" + first + "2" + second + "3);", 10);
                fault("gains not 1" + first + "2" + second + "3;", 13);
                good("gains 1" + first + "2 and 2" + second + "3;mild (1" + first + "2)" + second + "3;most 1" + first + "(2" + second + "3);");
                good("gains 1" + first + "2 or 2" + second + "3;mild not 1" + first + "2;most 1;");
            }
        }
        for (String bad : new String[] {";", ")", "or", "and", "<", "=", "+", "*"}) {
            fault("gains " + bad, 6);
            fault("gains not " + bad, 10);
            fault("gains - " + bad, 8);
            fault("gains ( " + bad, 8);
            fault("gains 1 or " + bad, 11);
            fault("gains 1 and " + bad, 12);
        }
        fault("gains -not 1;", 7);
        fault("gains (1;", 8);
        fault("gains ((1);", 10);
        fault("gains 1);", 7);
        fault("gains (1));", 9);
        fault("gains ();", 7);
        fault("gains 1;;", 8);
        fault("gains 1;mild 1;most 1;;", 22);
        fault(WHOLE + WHOLE, 22);
        fault(";", 0);
        fault("1", 0);
        fault("gains 1;most 1;mild 1;", 8);
        fault("gains 1;gains 1;", 8);
        fault("gains 1;mild 1;mild 1;", 15);
        // Of two the first, whatever they are.
        fault("gains 12345 ?;", 6);
        fault("gains ? 12345;", 6);
        fault("gains 1 1 xyz", 8);
        fault("gains xyz 1 1", 6);
        fault("gains ((((((xyz", 11);
        fault("gains (((((xyz((", 11);
        fault("gains (((((?", 11);
    }

    // ---- while 5 of these are open

    private static void openByOpen() {
        DUE.about("a ( , a not, a - ahead of a ONE while 5 of these are open");
        open(new ArrayList<>());
    }

    /** All that five can be, and of each whether it can be the sixth. */
    private static void open(List<String> ones) {
        boolean behindMinus = !ones.isEmpty() && ones.get(ones.size() - 1).equals("-");
        for (String one : new String[] {"(", "not ", "-"}) {
            if (one.equals("not ") && behindMinus) {
                continue;
            }
            String before = String.join("", ones);
            if (ones.size() == 5) {
                fault("gains " + before + one + "1;", 6 + before.length());
                fault("gains 1;mild " + before + one + "1;", 13 + before.length());
                fault("gains 1;mild 1;most " + before + one + "1;", 20 + before.length());
                fault("gains 1+(1) and " + before + one, 16 + before.length());
                continue;
            }
            ones.add(one);
            if (ones.size() == 5) {
                String e = closed(before + one);
                good("gains " + e + ";mild " + e + ";most " + e + ";");
                good("gains " + e + " or " + e + " and " + e + ";mild 1;most 1;");
            }
            open(ones);
            ones.remove(ones.size() - 1);
        }
    }

    private static String closed(String ones) {
        return ones + "1" + ones.replaceAll("[^(]", "").replace('(', ')');
    }

    private static void openTill() {
        DUE.about("a ( till its )");
        good("gains (((((1)))))+(((((1)))))-(((((1)))))*(((((1)))))<(((((1)))));mild 1;most 1;");
        good("gains ((((1)+(1))*(1)-(1))<(1));mild 1;most 1;");
        fault("gains ((((1)+((1)))*(1)-((((1;", 27);
        fault("gains (((((1))))+((((((1;", 21);
        fault("gains (((((1)-(((1;", 15);
        DUE.about("- till what it belongs to ends");
        good("gains -----1*(((((1)))))+-----1-(((((1)))));mild 1;most 1;");
        good("gains ----(1);mild 1;most 1;");
        fault("gains -----(1);", 11);
        fault("gains -(-(-(1)));", 11);
        good("gains -(-(-1));mild -(1)*-(1)*-(((-1)));most 1;");
        good("gains ----(1)*(((((1)))));mild 1;most 1;");
        // A - between two opens nothing.
        good("gains (((((1-1-1)-1)-1)-1)-1);mild 1;most 1;");
        fault("gains (((((1--1)))));", 13);
        good("gains ((((1--1))));mild 1;most 1;");
        DUE.about("not till what it belongs to ends");
        good("gains not not not not not 1 and (1) or not (1);mild 1;most 1;");
        fault("gains not not not not not 1+(1);", 28);
        fault("gains not not not not not 1*(1);", 28);
        fault("gains not not not not not 1<(1);", 28);
        fault("gains not not not not not 1=-1;", 28);
        good("gains not not not not 1+(1)<-1*-1;mild 1;most 1;");
        fault("gains not not not not 1+((1;", 25);
        good("gains (not not not 1 and (not not not 1)) or (1);mild 1;most 1;");
        fault("gains (not not not 1 and (not not not not 1))", 38);
        good("gains not (1)+(not (1)) and -(not -1);mild 1;most 1;");
        DUE.about("each part has its own");
        good("gains (((((1)))));mild (((((1)))));most (((((1)))));");
        good("gains -----1;mild -----1;most not not not not not 1;");
    }

    // ---- what an E is

    /** What a USER with NUMBER 7 HAS by that E as gains of NIGHT 2, COLD 8, RUN 3, of TOWN 0, one of two USERS. */
    private static int answer(String e) {
        OneWinter x = Winters.ruled("gains " + e + ";mild 0;most 1;", 0, 7, 0, 1, 0, 1);
        x.set(1, 2, 8);
        return x.has(0, 2);
    }

    private static void names() {
        DUE.about("NAMES of gains");
        int[] due = {8, 2, 7, 3, 0, 2};
        for (int i = 0; i < 6; i++) {
            DUE.is(NAMES[i], answer(NAMES[i]), due[i]);
        }
        DUE.about("NAMES of mild and most");
        int[] ofMild = {9, 29, 4, 2, 1, 3};
        int[] ofMost = {9, 29, 1, 1, 1, 3};
        for (int i = 0; i < 6; i++) {
            OneWinter x = Winters.ruled("gains 0;mild " + NAMES[i] + ";most " + NAMES[i] + ";", 0, 4, 0, 0, 5, 0, 0, 6, 1);
            x.set(1, 29, 9);
            x.set(0, 0, 3 << 28);
            DUE.is("mild " + NAMES[i], x.has(0, 29), ofMild[i]);
            DUE.is("most " + NAMES[i], x.told(29, 6), ofMost[i]);
        }
        OneWinter x = Winters.ruled("gains users;mild 0;most 9+number+run;", 0, 9, 0);
        DUE.is("of most number and run are 0", x.told(29, 6), 9);
        x.image();
        for (int i = 1; i < 6; i++) {
            DUE.is("users", x.has(0, 0), i);
            x.user(0, 0, 0);
        }
        DUE.is("six users", x.has(0, 0), 6);
        x.back();
        DUE.is("those that came since go", x.has(0, 0), 1);
        DUE.is("night 0", Winters.ruled("gains night+7;mild 0;most 1;", 0, 0, 0).has(0, 0), 7);
        DUE.is("town 1 in gains", Winters.withShare(Winters.ruled("gains town;mild 5;most 1;", 0, 0, 1), 1).has(0, 0), 1);
        DUE.is("town 0 in mild", Winters.ruled("gains 5;mild town;most 1;", 0, 0, 1).has(0, 0), 0);
    }

    private static void values() {
        DUE.about("or, and, not, <, = are 1 or 0");
        String[] truths = {"0", "1", "7", "-1", "9999"};
        for (String a : truths) {
            boolean isA = !a.equals("0");
            DUE.is("not " + a, answer("not " + a), isA ? 0 : 1);
            DUE.is("not not " + a, answer("not not " + a), isA ? 1 : 0);
            for (String b : truths) {
                boolean isB = !b.equals("0");
                DUE.is(a + " or " + b, answer(a + " or " + b), isA || isB ? 1 : 0);
                DUE.is(a + " and " + b, answer(a + " and " + b), isA && isB ? 1 : 0);
                int va = Integer.parseInt(a);
                int vb = Integer.parseInt(b);
                DUE.is(a + "<" + b, answer(a + "<" + b), va < vb ? 1 : 0);
                DUE.is(a + "=" + b, answer(a + "=" + b), va == vb ? 1 : 0);
            }
        }
        DUE.about("which binds more");
        DUE.is("or is of ands", answer("1 or 1 and 0"), 1);
        DUE.is("or is of ands", answer("0 and 1 or 1"), 1);
        DUE.is("and is of nots", answer("not 1 and 0"), 0);
        DUE.is("and is of nots", answer("0 and not 0"), 0);
        DUE.is("not is of a comparison", answer("not 0=1"), 1);
        DUE.is("not is of a comparison", answer("not 3<2"), 1);
        DUE.is("not is of a sum", answer("not 0+5"), 0);
        DUE.is("a comparison is of sums", answer("1+1=2"), 1);
        DUE.is("a comparison is of sums", answer("2-1<1+1"), 1);
        DUE.is("a sum is of terms", answer("2+3*4"), 14);
        DUE.is("a sum is of terms", answer("2*3+4"), 10);
        DUE.is("a term is of ones", answer("-2*3"), -6);
        DUE.is("a term is of ones", answer("2*-3"), -6);
        DUE.is("from the left", answer("9-5-3"), 1);
        DUE.is("from the left", answer("9-5+3"), 7);
        DUE.is("from the left", answer("2*3*4"), 24);
        DUE.is("in ( )", answer("9-(5-3)"), 7);
        DUE.is("in ( )", answer("(2+3)*4"), 20);
        DUE.is("in ( )", answer("-(2-5)"), 3);
        DUE.is("in ( )", answer("(0 or 5)*7"), 7);
        DUE.is("many", answer("1 and 1 and 1 and 0 or 0 or 0 or 3"), 1);
        DUE.is("many", answer("1 and 1 and 1 and 0 or 0 or 0"), 0);
        DUE.is("deep", answer("1+(1+(1+(1+(1+(1*2)))))"), 7);
        DUE.is("deep and wide", answer("0 or 1 and 2<3+4*(0 or 1 and 2<3+4*(0 or 1 and 2<3+4*(1)))"), 1);
    }

    private static void wrapping() {
        DUE.about("an E is an int, wrapping");
        String lowest = "4096*4096*128";
        DUE.is("2^31", answer(lowest + "<0"), 1);
        DUE.is("2^32", answer("4096*4096*256"), 0);
        DUE.is("2^32 and 5", answer("4096*4096*256+5"), 5);
        DUE.is("less than the lowest", answer("0<" + lowest + "-1"), 1);
        DUE.is("more than the highest", answer(lowest + "-1+1<0"), 1);
        DUE.is("0 less the lowest", answer("-(" + lowest + ")<0"), 1);
        DUE.is("0 less the lowest", answer("-(" + lowest + ")=" + lowest), 1);
        DUE.is("the lowest is less than the highest", answer(lowest + "<" + lowest + "-1"), 1);
        DUE.is("a product", answer("9999*9999*9999"), Math.max(-99, Math.min(99, 9999 * 9999 * 9999)));
        DUE.is("a product", answer("9999*9999*9999*9999-" + "9999*9999*(9999*9999)"), 0);
        DUE.is("gains, the bound of the lowest", answer(lowest), -99);
        DUE.is("gains, the bound of the highest", answer(lowest + "-1"), 99);
        OneWinter x = Winters.ruled("gains 0;mild 4096*4096*128;most 4096*4096*128-1;", 0, 0, 1);
        DUE.is("mild, the bound of the lowest", x.has(0, 0), -99);
        DUE.is("most, the bound of the highest", x.told(0, 6), 30);
        x = Winters.ruled("gains 0;mild 4096*4096*128-1;most 4096*4096*128;", 0, 0, 1);
        DUE.is("mild, the bound of the highest", x.has(0, 0), 99);
        DUE.is("most, the bound of the lowest", x.told(0, 6), 1);
    }

    private static void bounds() {
        DUE.about("gains, mild (-99 .. 99, else the bound); most (1 .. 30, else the bound)");
        int[][] gains = {{-9999, -99}, {-100, -99}, {-99, -99}, {-98, -98}, {-1, -1}, {0, 0}, {1, 1}, {98, 98}, {99, 99}, {100, 99}, {9999, 99}};
        for (int[] g : gains) {
            OneWinter x = Winters.ruled("gains " + g[0] + ";mild " + g[0] + ";most 1;", 0, 9, 0, 0, 9, 1, 1, 9, 0, 2, 9, 0,
                    4, 9, 1, 5, 9, 1);
            DUE.is("gains " + g[0], x.has(0, 2), g[1]);
            DUE.is("mild " + g[0], x.has(1, 2), g[1]);
            // The bound is that of gains and mild, not that of what one HAS.
            DUE.is("twice gains " + g[0], x.has(2, 2), 2 * g[1]);
            DUE.is("0 less gains " + g[0], x.has(3, 2), -g[1]);
            DUE.is("NUMBER more than mild " + g[0], x.has(4, 2), 9 + g[1]);
            DUE.is("2 more than mild " + g[0], x.has(5, 2), 2 + g[1]);
        }
        int[][] most = {{-9999, 1}, {-1, 1}, {0, 1}, {1, 1}, {2, 2}, {29, 29}, {30, 30}, {31, 30}, {9999, 30}};
        for (int[] m : most) {
            OneWinter x = Winters.ruled("gains 1;mild 1;most " + m[0] + ";");
            DUE.is("most " + m[0], x.told(0, 6), m[1]);
            DUE.is("most " + m[0], x.told(29, 6), m[1]);
            DUE.is("the first that is too much", x.share(1), m[1] == 30 ? -1 : m[1]);
        }
    }
}
