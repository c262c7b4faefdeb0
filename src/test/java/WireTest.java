/** Promises 6 to 9: crossing, hours, drawing wire through, settings. */
public final class WireTest {
    private static final int MIN = Integer.MIN_VALUE;
    private static final int MAX = Integer.MAX_VALUE;

    public static void main(String[] args) {
        crossOnce();
        crossLoaded();
        crossSlack();
        crossAtLimits();
        wearIsLimited();
        pass();
        draw();
        drawAll();
        set();
        Check.end();
    }

    private static void crossOnce() {
        CableFerry x = new CableFerry();
        x.arrive(0, 5);
        x.arrive(1, 5);
        x.arrive(1, 5);
        Check.undoable("cross()", x, x::cross);
        Check.due("bank", x.count(1), 1);
        Check.due("hours", x.count(0), 1);
        Check.due("crossings", x.count(8), 1);
        Check.due("hours waited", x.count(12), 3);
        // Tensions 2, 4 .. 20, 20 .. 2: 220 together; a tenth of each, rounded down, is wear.
        Check.due("stretch", x.count(6), 220);
        for (int k = 0; k < 20; k++) {
            Check.due("wear of " + k, x.section(k, 0), 2 * Math.min(k + 1, 20 - k) / 10);
        }
        x.cross();
        Check.due("bank", x.count(1), 0);
        x.cross();
        Check.due("stretch", x.count(6), 160);
        Check.due("slack", x.count(5), 1);
        // With the slack 1 the sections 1 to 18 have 4 less: 2 becomes 0.
        Check.due("section(0, 2)", x.section(0, 2), 0);
        Check.due("section(1, 2)", x.section(1, 2), 0);
        Check.due("section(2, 2)", x.section(2, 2), 2);
    }

    private static void crossLoaded() {
        CableFerry x = new CableFerry();
        x.set(2, 7);
        x.current(0, 37);
        x.arrive(0, 13);
        x.arrive(0, 2);
        x.load(0);
        x.load(1);
        // 37 * 7 / 10 = 25; 25 * 35 / 10 = 87; 87 + 33 = 120. 120 / 7 = 17.
        Check.due("section(6, 2)", x.section(6, 2), 120);
        Check.due("section(13, 2)", x.section(13, 2), 120);
        // 37 * 1 / 10 = 3; 3 * 35 / 10 = 10; 10 + 33 = 43.
        Check.due("section(0, 2)", x.section(0, 2), 43);
        Check.due("section(19, 2)", x.section(19, 2), 43);
        Check.due("cross()", x.cross(), 1);
        Check.due("section(6, 0)", x.section(6, 0), 17);
        Check.due("section(6, 1)", x.section(6, 1), 292);
        Check.due("section(0, 0)", x.section(0, 0), 6);
        // 10, 24, 38, 49, 63, 77, 87, 101, 115, 129 and 33 each: 1023 twice.
        Check.due("slack", x.count(5), 4);
        Check.due("stretch", x.count(6), 46);
    }

    private static CableFerry strained(int weight) {
        CableFerry x = new CableFerry();
        x.set(0, 999);
        x.set(1, 80);
        x.set(2, 50);
        for (int hour = 0; hour < 24; hour++) {
            x.current(hour, 40);
        }
        for (int i = 0; i < 4; i++) {
            x.arrive(0, weight);
            x.load(0);
        }
        return x;
    }

    private static void crossSlack() {
        CableFerry x = strained(20);
        x.arrive(0, 1);
        x.arrive(1, 1);
        // 4 to 40, times 10, and 240: 2200 + 2400, twice: 9200, so a slack of 18.
        Check.due("section(9, 2)", x.section(9, 2), 640);
        Check.due("cross() tells the hours by the slack as it is by then", x.cross(), 2);
        Check.due("slack", x.count(5), 18);
        Check.due("stretch", x.count(6), 200);
        Check.due("hours", x.count(0), 2);
        Check.due("hours waited", x.count(12), 4);
        // 72 less in each section: 9200 - 1440 + 200 = 7960, 15 times 500; at most 30.
        Check.due("why()", x.why(), 0);
        Check.due("cross()", x.cross(), 4);
        Check.due("slack", x.count(5), 30);
        Check.due("stretch", x.count(6), 460);
        Check.due("why()", x.why(), 2);
        Check.unchanged("cross() with slack", x, () -> Check.badState("cross()", x::cross));
        x.set(1, 79);
        Check.due("why() tells the list first", x.why(), 1);
    }

    private static void crossAtLimits() {
        CableFerry x = new CableFerry();
        x.arrive(0, 12);
        x.arrive(0, 1);
        x.arrive(0, 1);
        x.load(1);
        Check.due("why() at the greatest list", x.why(), 0);
        x.load(1);
        Check.due("why() above it", x.why(), 1);
        Check.badState("cross()", x::cross);
        x.load(0);
        Check.due("why() at 12 again", x.why(), 0);
        CableFerry y = new CableFerry();
        y.current(0, 25);
        y.set(0, 50);
        Check.due("tension as strong as the wire", y.section(9, 2), 50);
        Check.due("why() at the strength", y.why(), 0);
        y.current(0, 26);
        Check.due("why() above it", y.why(), 3);
        Check.badState("cross()", y::cross);
        y.pass(1);
        Check.due("why() an hour later", y.why(), 0);
        slackOf25();
    }

    private static CableFerry secondCrossingAt(int current) {
        CableFerry x = strained(20);
        x.cross();
        x.current(2, current);
        x.cross();
        return x;
    }

    private static void slackOf25() {
        // Slack 18 and stretch 200; by the current 0 there are 20 times 240 - 72 more.
        CableFerry x = secondCrossingAt(0);
        Check.due("slack", x.count(5), 25);
        Check.due("stretch", x.count(6), 60);
        Check.due("why() at the slack 25", x.why(), 0);
        Check.due("cross()", x.cross(), 4);
        // By the current 5 another 20 times 0 + 1 + 1 + 2 + 2 + 3 + 3 + 4 + 4 + 5.
        CableFerry y = secondCrossingAt(5);
        Check.due("slack", y.count(5), 26);
        Check.due("stretch", y.count(6), 60);
        Check.due("why() at the slack 26", y.why(), 2);
        Check.badState("cross()", y::cross);
    }

    private static void wearIsLimited() {
        CableFerry x = new CableFerry();
        x.set(0, 999);
        x.set(1, 80);
        x.set(2, 1);
        for (int i = 0; i < 3; i++) {
            x.arrive(0, 20);
            x.load(0);
        }
        // 10 * 80 / 10 + 180: 260, and 188 at the ends.
        Check.due("section(9, 2)", x.section(9, 2), 260);
        x.cross();
        Check.due("section(9, 0)", x.section(9, 0), 260);
        Check.due("section(9, 1)", x.section(9, 1), 869);
        // Each drawing takes the slack away, and moves the section 9 to 8, 7, 6, 5.
        for (int i = 0; i < 3; i++) {
            x.draw(1);
            x.cross();
        }
        Check.due("section(6, 0)", x.section(6, 0), 260 + 252 + 244 + 236);
        x.draw(1);
        x.set(0, 999);
        x.cross();
        Check.due("section(5, 0) is at most 1000", x.section(5, 0), 1000);
        Check.due("section(5, 1)", x.section(5, 1), 499);
        x.set(0, 50);
        Check.due("section(5, 1) is at least 0", x.section(5, 1), 0);
        x.unload();
        Check.due("slack", x.count(5), 8);
        Check.due("section(5, 2) is at least 0", x.section(5, 2), 0);
        Check.due("why(), no strength but no tension", x.why(), 0);
        x.draw(1);
        Check.due("why()", x.why(), 3);
        Check.due("weakest()", x.weakest(), 9);
    }

    private static void pass() {
        CableFerry x = new CableFerry();
        x.arrive(0, 1);
        x.arrive(0, 1);
        x.load(0);
        x.arrive(1, 1);
        Check.undoable("pass(1)", x, () -> x.pass(1));
        Check.due("hours waited, not on the deck", x.count(12), 2);
        Check.due("pass(100)", x.pass(100), 101);
        Check.due("hours waited", x.count(12), 202);
        Check.due("count(13)", x.count(13), 6);
        x.undo();
        Check.due("pass() is undone as one call", x.count(0), 1);
        Check.due("hours waited", x.count(12), 2);
        Check.unchanged("wrong hours", x, () -> {
            Check.badArgument("pass(0)", () -> x.pass(0));
            Check.badArgument("pass(101)", () -> x.pass(101));
            Check.badArgument("pass(-1)", () -> x.pass(-1));
            Check.badArgument("pass(MIN)", () -> x.pass(MIN));
            Check.badArgument("pass(MAX)", () -> x.pass(MAX));
        });
    }

    private static void draw() {
        CableFerry x = new CableFerry();
        x.set(2, 1);
        Check.type(x, "a1:1;x;x;x");
        x.obey();
        x.set(2, 10);
        Check.due("section(5, 0)", x.section(5, 0), 36);
        Check.undoable("draw(2)", x, () -> x.draw(2));
        for (int k = 0; k < 20; k++) {
            int from = k + 2;
            Check.due("wear of " + k, x.section(k, 0), from < 20 ? 6 * Math.min(from + 1, 20 - from) : 0);
        }
        Check.due("drum", x.count(7), 38);
        Check.due("slack", x.count(5), 0);
        Check.due("stretch", x.count(6), 0);
        Check.due("hours", x.count(0), 5);
        Check.due("hours waited", x.count(12), 5);
        Check.due("draw(5)", x.draw(5), 33);
        Check.due("hours", x.count(0), 10);
        Check.due("bank", x.count(1), 1);
        Check.unchanged("wrong sections", x, () -> {
            Check.badArgument("draw(0)", () -> x.draw(0));
            Check.badArgument("draw(6)", () -> x.draw(6));
            Check.badArgument("draw(MIN)", () -> x.draw(MIN));
            Check.badArgument("draw(MAX)", () -> x.draw(MAX));
        });
    }

    private static void drawAll() {
        CableFerry x = new CableFerry();
        for (int left = 35; left >= 5; left -= 5) {
            Check.due("draw(5)", x.draw(5), left);
        }
        Check.due("draw(3)", x.draw(3), 2);
        Check.unchanged("draw() of too many", x, () -> {
            Check.badState("draw(3)", () -> x.draw(3));
            Check.badArgument("draw(6)", () -> x.draw(6));
        });
        Check.due("draw(2)", x.draw(2), 0);
        Check.badState("draw(1)", () -> x.draw(1));
    }

    private static void set() {
        CableFerry x = new CableFerry();
        Check.undoable("set(0, 50)", x, () -> x.set(0, 50));
        Check.due("set(0, 999)", x.set(0, 999), 50);
        Check.due("set(1, 0)", x.set(1, 0), 12);
        Check.due("set(1, 80)", x.set(1, 80), 0);
        Check.due("set(2, 1)", x.set(2, 1), 10);
        Check.due("set(2, 50)", x.set(2, 50), 1);
        Check.due("setting(0)", x.setting(0), 999);
        Check.due("setting(1)", x.setting(1), 80);
        Check.due("setting(2)", x.setting(2), 50);
        Check.unchanged("wrong settings", x, () -> {
            Check.noIndex("set(-1, 50)", () -> x.set(-1, 50));
            Check.noIndex("set(3, 5000)", () -> x.set(3, 5000));
            Check.noIndex("set(MAX, 50)", () -> x.set(MAX, 50));
            Check.badArgument("set(0, 49)", () -> x.set(0, 49));
            Check.badArgument("set(0, 1000)", () -> x.set(0, 1000));
            Check.badArgument("set(1, -1)", () -> x.set(1, -1));
            Check.badArgument("set(1, 81)", () -> x.set(1, 81));
            Check.badArgument("set(2, 0)", () -> x.set(2, 0));
            Check.badArgument("set(2, 51)", () -> x.set(2, 51));
            Check.badArgument("set(2, MIN)", () -> x.set(2, MIN));
        });
    }
}
