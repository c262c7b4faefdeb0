/** Promises 17 to 24: looks. */
public final class LookTest {
    private static final int MIN = Integer.MIN_VALUE;
    private static final int MAX = Integer.MAX_VALUE;

    public static void main(String[] args) {
        section();
        waiting();
        deck();
        count();
        currentOfAndSetting();
        why();
        weakest();
        Check.end();
    }

    private static void section() {
        CableFerry x = new CableFerry();
        x.set(2, 1);
        x.current(1, 23);
        x.cross();
        Check.due("section(0, 0)", x.section(0, 0), 2);
        Check.due("section(19, 0)", x.section(19, 0), 2);
        Check.due("section(4, 0)", x.section(4, 0), 10);
        Check.due("section(4, 1)", x.section(4, 1), 295);
        // 23 * 5 / 10 = 11; 11 * 20 / 10 = 22, by the current of the hour 1.
        Check.due("section(4, 2)", x.section(4, 2), 22);
        Check.due("section(15, 2)", x.section(15, 2), 22);
        x.set(2, 3);
        x.cross();
        // The wear is 2 and 4 / 3 now, 3; half of it, rounded down, is off the strength.
        Check.due("section(0, 0)", x.section(0, 0), 3);
        Check.due("section(0, 1)", x.section(0, 1), 299);
        Check.unchanged("looks at sections", x, () -> {
            Check.noIndex("section(-1, 0)", () -> x.section(-1, 0));
            Check.noIndex("section(20, 0)", () -> x.section(20, 0));
            Check.noIndex("section(20, 3)", () -> x.section(20, 3));
            Check.noIndex("section(MIN, 0)", () -> x.section(MIN, 0));
            Check.noIndex("section(MAX, MAX)", () -> x.section(MAX, MAX));
            Check.badArgument("section(0, -1)", () -> x.section(0, -1));
            Check.badArgument("section(19, 3)", () -> x.section(19, 3));
            Check.badArgument("section(19, MIN)", () -> x.section(19, MIN));
        });
    }

    private static void waiting() {
        CableFerry x = new CableFerry();
        x.arrive(1, 8);
        x.arrive(1, 9);
        x.arrive(0, 7);
        x.arrive(0, 6);
        x.load(0);
        Check.unchanged("looks at the banks", x, () -> {
            Check.due("waiting(1, 0)", x.waiting(1, 0), 8);
            Check.due("waiting(1, 1)", x.waiting(1, 1), 9);
            Check.due("waiting(1, 2)", x.waiting(1, 2), CableFerry.NONE);
            Check.due("waiting(0, 0)", x.waiting(0, 0), 6);
            Check.due("waiting(0, 1)", x.waiting(0, 1), CableFerry.NONE);
            Check.due("waiting(0, 10)", x.waiting(0, 10), CableFerry.NONE);
            Check.due("waiting(0, MAX)", x.waiting(0, MAX), CableFerry.NONE);
            Check.noIndex("waiting(-1, 0)", () -> x.waiting(-1, 0));
            Check.noIndex("waiting(2, -1)", () -> x.waiting(2, -1));
            Check.badArgument("waiting(0, -1)", () -> x.waiting(0, -1));
            Check.badArgument("waiting(1, MIN)", () -> x.waiting(1, MIN));
        });
    }

    private static void deck() {
        CableFerry x = new CableFerry();
        x.arrive(0, 2);
        x.arrive(1, 3);
        x.load(1);
        x.cross();
        x.load(1);
        Check.unchanged("looks at the deck", x, () -> {
            Check.due("deck(1, 0, 0)", x.deck(1, 0, 0), 2);
            Check.due("deck(1, 0, 1)", x.deck(1, 0, 1), 0);
            Check.due("deck(1, 1, 0)", x.deck(1, 1, 0), 3);
            Check.due("deck(1, 1, 1)", x.deck(1, 1, 1), 1);
            Check.due("deck(1, 2, 0)", x.deck(1, 2, 0), CableFerry.NONE);
            Check.due("deck(1, 4, 1)", x.deck(1, 4, 1), CableFerry.NONE);
            Check.due("deck(0, 0, 0)", x.deck(0, 0, 0), CableFerry.NONE);
            Check.due("deck(0, 0, 1)", x.deck(0, 0, 1), CableFerry.NONE);
            Check.due("deck(0, MAX, 1)", x.deck(0, MAX, 1), CableFerry.NONE);
            Check.noIndex("deck(-1, 0, 0)", () -> x.deck(-1, 0, 0));
            Check.noIndex("deck(2, -1, 0)", () -> x.deck(2, -1, 0));
            Check.noIndex("deck(2, 0, 2)", () -> x.deck(2, 0, 2));
            Check.badArgument("deck(0, -1, 0)", () -> x.deck(0, -1, 0));
            Check.badArgument("deck(0, 0, -1)", () -> x.deck(0, 0, -1));
            Check.badArgument("deck(1, 9, 2)", () -> x.deck(1, 9, 2));
            Check.badArgument("deck(1, MIN, MAX)", () -> x.deck(1, MIN, MAX));
        });
    }

    private static void count() {
        CableFerry x = new CableFerry();
        x.arrive(0, 9);
        x.arrive(0, 4);
        x.arrive(0, 1);
        x.load(0);
        x.load(1);
        x.cross();
        x.unload();
        x.arrive(1, 6);
        x.arrive(1, 8);
        x.load(1);
        x.load(1);
        x.unload();
        x.draw(1);
        x.arrive(1, 11);
        x.load(0);
        x.cross();
        x.load(1);
        // The second crossing: 10 * (20 + 11) / 10 = 31 less, k * 31 / 10 and 33.
        int[] due = {3, 0, 2, 12, 10, 2, 0, 39, 2, 6, 2, 2, 3, 6};
        due[6] = 2 * (3 + 6 + 9 + 12 + 15 + 18 + 21 + 24 + 27 + 31 + 330) - 1000 + 8;
        due[5] = 1;
        due[6] = 992 - 500;
        for (int what = 0; what < due.length; what++) {
            Check.due("count(" + what + ")", x.count(what), due[what]);
        }
        Check.unchanged("wrong counts", x, () -> {
            Check.badArgument("count(-1)", () -> x.count(-1));
            Check.badArgument("count(14)", () -> x.count(14));
            Check.badArgument("count(MIN)", () -> x.count(MIN));
            Check.badArgument("count(MAX)", () -> x.count(MAX));
        });
    }

    private static void currentOfAndSetting() {
        CableFerry x = new CableFerry();
        x.current(23, 1);
        Check.due("currentOf(23)", x.currentOf(23), 1);
        Check.due("currentOf(22)", x.currentOf(22), 10);
        Check.noIndex("currentOf(-1)", () -> x.currentOf(-1));
        Check.noIndex("currentOf(24)", () -> x.currentOf(24));
        Check.noIndex("currentOf(MIN)", () -> x.currentOf(MIN));
        x.set(2, 44);
        Check.due("setting(2)", x.setting(2), 44);
        Check.due("setting(1)", x.setting(1), 12);
        Check.noIndex("setting(-1)", () -> x.setting(-1));
        Check.noIndex("setting(3)", () -> x.setting(3));
        Check.noIndex("setting(MAX)", () -> x.setting(MAX));
    }

    private static void why() {
        CableFerry x = new CableFerry();
        Check.due("why()", x.why(), 0);
        x.set(0, 50);
        x.current(0, 40);
        Check.due("why(), the wire too weak", x.why(), 3);
        x.arrive(0, 13);
        x.load(1);
        Check.due("why(), the list first", x.why(), 1);
        x.set(1, 13);
        Check.due("why(), the wire again", x.why(), 3);
        x.set(0, 999);
        Check.due("why()", x.why(), 0);
        x.set(1, 0);
        Check.due("why(), the list", x.why(), 1);
        x.unload();
        Check.due("why(), a list of 0", x.why(), 0);
        slackIsTheSecond();
    }

    private static void slackIsTheSecond() {
        CableFerry x = new CableFerry();
        x.set(0, 999);
        x.set(1, 80);
        for (int i = 0; i < 4; i++) {
            x.arrive(0, 20);
            x.load(1);
        }
        // 10 * 100 / 10 at most, and 240, 5900 together: 11 more; then 19 * 4 less.
        x.cross();
        Check.due("slack", x.count(5), 11);
        x.cross();
        Check.due("slack", x.count(5), 21);
        Check.due("why()", x.why(), 0);
        x.cross();
        Check.due("slack", x.count(5), 30);
        Check.due("why(), the slack", x.why(), 2);
        x.set(0, 50);
        Check.due("why(), the slack before the wire", x.why(), 2);
        x.set(1, 79);
        Check.due("why(), the list before the slack", x.why(), 1);
        x.set(0, 999);
        x.unload();
        Check.due("why(), an empty deck", x.why(), 2);
        x.draw(1);
        Check.due("why(), behind draw(1)", x.why(), 0);
    }

    private static void weakest() {
        CableFerry x = new CableFerry();
        Check.due("weakest(), the lowest of two", x.weakest(), 9);
        x.current(0, 0);
        Check.due("weakest(), all alike", x.weakest(), 0);
        x.set(2, 1);
        x.current(1, 0);
        x.current(0, 40);
        x.cross();
        Check.due("weakest() by the wear alone", x.weakest(), 9);
        x.draw(3);
        x.current(4, 0);
        Check.due("weakest() behind draw(3)", x.weakest(), 6);
        // Wear 4 * 20 / 10 = 8 a step: half of it against 10 * 2 / 10 a step of tension.
        x.current(4, 40);
        Check.due("section(6, 1)", x.section(6, 1), 260);
        Check.due("section(6, 2)", x.section(6, 2), 56);
        Check.due("section(9, 1)", x.section(9, 1), 268);
        Check.due("section(9, 2)", x.section(9, 2), 80);
        Check.due("weakest() by both", x.weakest(), 9);
        x.draw(5);
        x.current(9, 0);
        Check.due("weakest() near the bank 0", x.weakest(), 1);
        x.draw(2);
        x.current(11, 0);
        Check.due("weakest() at the bank 0", x.weakest(), 0);
        x.set(0, 50);
        x.arrive(1, 4);
        x.load(0);
        // A list of 4 is 12 against 50 - 40 there, 50 - 36 beside it.
        Check.due("section(0, 1)", x.section(0, 1), 10);
        Check.due("section(1, 1)", x.section(1, 1), 14);
        Check.due("why(), the first section alone", x.why(), 3);
        x.set(0, 52);
        Check.due("why()", x.why(), 0);
    }
}
