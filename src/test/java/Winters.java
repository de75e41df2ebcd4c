/** Makes objects as tests need them; what goes wrong on the way ends the test. */
final class Winters {
    static final int ALL_NIGHTS = (1 << 30) - 1;
    static final int LOW = Integer.MIN_VALUE, HIGH = Integer.MAX_VALUE;

    private Winters() {
    }

    private static void must(String call, long got, long want) {
        if (got != want) {
            throw new IllegalStateException(call + " answered " + got + ", due is " + want);
        }
    }

    /** USERS by KIND, NUMBER, TOWN, three by three. */
    static OneWinter with(int... users) {
        OneWinter x = new OneWinter();
        for (int i = 0; i + 2 < users.length; i += 3) {
            must("user", x.user(users[i], users[i + 1], users[i + 2]), i / 3);
        }
        return x;
    }

    static void feedAll(OneWinter x, String letters) {
        int before = x.count(3);
        for (int i = 0; i < letters.length(); i++) {
            must("feed", x.feed(letters.charAt(i)), before + i + 1);
        }
    }

    static int textOf(OneWinter x, String letters) {
        feedAll(x, letters);
        return x.text();
    }

    static void rule(OneWinter x, String letters) {
        int text = textOf(x, letters);
        must("text of " + letters, text > 0 ? 1 : text, 1);
        x.force(text);
    }

    static OneWinter ruled(String letters, int... users) {
        OneWinter x = with(users);
        rule(x, letters);
        return x;
    }

    static void row(OneWinter x, int sheet, int sort, int... items) {
        must("sheet", x.sheet(sheet, sort, items.length), 1);
        for (int i = 0; i < items.length; i++) {
            must("cell", x.cell(sheet, i, items[i]), 1);
        }
    }

    static OneWinter withShare(OneWinter x, int share) {
        x.set(0, 0, share);
        return x;
    }
}
