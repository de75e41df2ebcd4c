import java.util.ArrayList;
import java.util.List;

/**
 * All that can be seen of an object, in some 330 calls which leave it changed: it is
 * read to set an object beside its twin, and both are thrown away then.
 */
final class State {
    private static final int[] SIZES = {0, 1, 3, 4, 5, 6, 11, 12, 13, 30, 31, 32, 40};

    private final OneWinter x;
    private final List<String> seen = new ArrayList<>();

    private State(OneWinter x) {
        this.x = x;
    }

    /** Where the two are unlike: "" if nowhere. By `rest` what is on THE TAPE becomes a TEXT. */
    static String unlike(OneWinter x, OneWinter y, String rest) {
        List<String> a = new State(x).all(rest);
        List<String> b = new State(y).all(rest);
        for (int i = 0; i < a.size(); i++) {
            if (!a.get(i).equals(b.get(i))) {
                return a.get(i) + ", but its twin " + b.get(i);
            }
        }
        return "";
    }

    private void saw(String call, long answer) {
        seen.add(call + ": " + answer);
    }

    private List<String> all(String rest) {
        nightsAndUsers();
        for (int i = 0; i < 6; i++) {
            saw("count(" + i + ")", x.count(i));
        }
        for (int s = 0; s < 4; s++) {
            sheet(s);
        }
        // A SHEET of over 30 numbers is read by the first 30, behind one that is missing.
        saw("a copy of sheet 3", x.sheet(0, 1, 30) + x.copy(3, 0, 0, 0, 30));
        saw("its numbers", x.tells(0, 1, 0));
        saw("the 31st of sheet 3", x.copy(3, 30, 0, 0, 1) + 100 * x.tells(0, 1, 0));
        texts(rest);
        saw("back()", x.back());
        nightsAndUsers();
        saw("count(4)", x.count(4));
        return seen;
    }

    private void nightsAndUsers() {
        saw("told(0, 0)", x.told(0, 0));
        for (int i = 0; i < 30; i++) {
            saw("told(" + i + ", 1)", x.told(i, 1));
        }
        for (int u = 0; u < 6; u++) {
            for (int what = 2; what <= 4; what++) {
                saw("told(" + u + ", " + what + ")", x.told(u, what));
            }
            saw("has(" + u + ", 1)", x.has(u, 1));
        }
    }

    private void sheet(int s) {
        for (int sort = 0; sort < 3; sort++) {
            saw("users(" + s + ", " + sort + ", 0, 0)", x.users(s, sort, 0, 0));
        }
        for (int n : SIZES) {
            saw("copy(" + s + ", 0, " + s + ", 0, " + n + ")", x.copy(s, 0, s, 0, n));
        }
        for (int u = 0; u < 3; u++) {
            saw("tells(" + s + ", " + u + ", 0)", x.tells(s, u, 0));
        }
    }

    private void texts(String rest) {
        int many = x.count(2);
        for (int i = 0; i < rest.length(); i++) {
            x.feed(rest.charAt(i));
        }
        saw("text()", x.text());
        for (int i = 0; i <= many && i < 6; i++) {
            saw("force(" + i + ")", x.force(i));
            saw("has(0, 1)", x.has(0, 1));
            saw("told(1, 6)", x.told(1, 6));
        }
    }
}
