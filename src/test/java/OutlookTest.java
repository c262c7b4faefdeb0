/** Promises 25 to 32: what would be, the shares, the hash. */
public final class OutlookTest {
    private static final int MIN = Integer.MIN_VALUE;
    private static final int MAX = Integer.MAX_VALUE;

    public static void main(String[] args) {
        ifLoaded();
        bestHour();
        leastList();
        lasts();
        needed();
        shares();
        digest();
        Check.end();
    }

    private static void ifLoaded() {
        CableFerry x = new CableFerry();
        Check.due("ifLoaded(0), none waits", x.ifLoaded(0), CableFerry.NONE);
        x.arrive(1, 4);
        Check.due("ifLoaded(1), none waits here", x.ifLoaded(1), CableFerry.NONE);
        x.arrive(0, 20);
        x.arrive(0, 7);
        Check.due("ifLoaded(0)", x.ifLoaded(0), 100);
        x.load(0);
        Check.unchanged("ifLoaded()", x, () -> {
            // 10 * 47 / 10 = 47, and 3 * 27 or 3 * 13.
            Check.due("ifLoaded(0)", x.ifLoaded(0), 128);
            Check.due("ifLoaded(1)", x.ifLoaded(1), 86);
            Check.noIndex("ifLoaded(-1)", () -> x.ifLoaded(-1));
            Check.noIndex("ifLoaded(2)", () -> x.ifLoaded(2));
            Check.noIndex("ifLoaded(MIN)", () -> x.ifLoaded(MIN));
            Check.noIndex("ifLoaded(MAX)", () -> x.ifLoaded(MAX));
        });
        x.current(0, 0);
        Check.due("ifLoaded(1) by the current of now", x.ifLoaded(1), 39);
        x.load(0);
        x.arrive(0, 1);
        x.load(0);
        x.arrive(0, 1);
        x.load(0);
        x.arrive(0, 1);
        Check.due("ifLoaded(0), 4 stand there", x.ifLoaded(0), CableFerry.NONE);
        Check.due("ifLoaded(1)", x.ifLoaded(1), 3 * 28);
        CableFerry y = new CableFerry();
        y.cross();
        y.cross();
        y.cross();
        y.arrive(1, 1);
        // 10 * 21 / 10 + 3, less 4 times the slack 1.
        Check.due("ifLoaded(0) with slack", y.ifLoaded(0), 20);
        y.current(3, 0);
        Check.due("ifLoaded(0) is at least 0", y.ifLoaded(0), 0);
    }

    private static void bestHour() {
        CableFerry x = new CableFerry();
        Check.due("bestHour(), all alike", x.bestHour(), 0);
        x.current(23, 5);
        Check.due("bestHour(), the last", x.bestHour(), 23);
        x.current(7, 5);
        Check.due("bestHour(), the fewest of several", x.bestHour(), 7);
        x.pass(8);
        Check.due("bestHour(), by the hours from now", x.bestHour(), 15);
        x.pass(100);
        Check.due("bestHour(), at 108", x.bestHour(), 11);
        x.current(12, 3);
        Check.due("bestHour(), now", x.bestHour(), 0);
        tensionsAreAlikeByRounding();
    }

    /** With the slack as it is, several currents come to the same tension. */
    private static void tensionsAreAlikeByRounding() {
        CableFerry x = new CableFerry();
        x.cross();
        x.cross();
        x.cross();
        Check.due("slack", x.count(5), 1);
        x.current(4, 2);
        x.current(6, 0);
        Check.due("bestHour(), a tension of 0 by the slack", x.bestHour(), 1);
        x.current(4, 3);
        Check.due("bestHour(), the current 0", x.bestHour(), 3);
    }

    private static void leastList() {
        CableFerry x = new CableFerry();
        Check.due("leastList(0)", x.leastList(0), 0);
        Check.due("leastList(1), none waits", x.leastList(1), CableFerry.NONE);
        int[] weights = {20, 3, 4, 5, 6, 7, 8, 9, 10};
        for (int weight : weights) {
            x.arrive(0, weight);
        }
        int[] due = {0, 20, 17, 13, 8, 2, 1, 1, 2};
        Check.unchanged("leastList()", x, () -> {
            for (int n = 0; n <= 8; n++) {
                Check.due("leastList(" + n + ")", x.leastList(n), due[n]);
            }
            Check.badArgument("leastList(-1)", () -> x.leastList(-1));
            Check.badArgument("leastList(9)", () -> x.leastList(9));
            Check.badArgument("leastList(MIN)", () -> x.leastList(MIN));
            Check.badArgument("leastList(MAX)", () -> x.leastList(MAX));
        });
        x.load(1);
        Check.due("leastList(0), the list as it is", x.leastList(0), 20);
        Check.due("leastList(1)", x.leastList(1), 17);
        Check.due("leastList(4)", x.leastList(4), 2);
        // 6 to 9 on the lane 0, 3 to 5 beside the 20.
        Check.due("leastList(7)", x.leastList(7), 32 - 30);
        Check.due("leastList(8), no room", x.leastList(8), CableFerry.NONE);
        noMoreThanFourOnALane();
    }

    private static void noMoreThanFourOnALane() {
        CableFerry x = new CableFerry();
        int[] weights = {1, 1, 1, 1, 20, 1, 2, 3, 4};
        for (int weight : weights) {
            x.arrive(0, weight);
        }
        x.load(0);
        x.load(0);
        x.load(0);
        // One place on the lane 0, four on the lane 1.
        Check.due("leastList(1)", x.leastList(1), 2);
        Check.due("leastList(2)", x.leastList(2), 16);
        Check.due("leastList(5)", x.leastList(5), 23 - 7);
        Check.due("leastList(6), no room", x.leastList(6), CableFerry.NONE);
        x.load(0);
        Check.due("leastList(1), the lane 1 alone", x.leastList(1), 16);
        CableFerry z = new CableFerry();
        for (int weight : new int[] {20, 20, 20, 12, 12, 12, 12, 12}) {
            z.arrive(0, weight);
        }
        z.load(1);
        z.load(1);
        z.load(1);
        Check.due("leastList(5), not all on the lane 0", z.leastList(5), 60 + 12 - 48);
        CableFerry y = new CableFerry();
        y.cross();
        y.arrive(0, 5);
        y.arrive(1, 6);
        Check.due("leastList(1), at the bank of the ferry", y.leastList(1), 6);
        Check.due("leastList(2), one waits here", y.leastList(2), CableFerry.NONE);
    }

    private static int crossings(CableFerry x) {
        int crossings = 0;
        while (crossings < 100 && x.why() == 0) {
            x.cross();
            crossings++;
        }
        return crossings;
    }

    private static void lasts() {
        CableFerry x = new CableFerry();
        Check.unchanged("lasts()", x, () -> Check.due("lasts(), at most", x.lasts(), 100));
        x.set(1, 0);
        x.arrive(0, 1);
        x.load(0);
        Check.due("lasts(), none", x.lasts(), 0);
        CableFerry y = new CableFerry();
        y.current(5, 40);
        y.set(0, 50);
        Check.due("lasts(), up to the hour 5", y.lasts(), 5);
        Check.due("crossings", crossings(y), 5);
        CableFerry z = new CableFerry();
        z.set(2, 1);
        z.set(1, 80);
        for (int i = 0; i < 3; i++) {
            z.arrive(0, 20);
            z.load(1);
        }
        // 260 at the most, 4480 together: a slack of 8 then; 260 - 32 is 228 against
        // 300 - 130: the wire breaks before the second crossing.
        Check.due("lasts(), by the wear", z.lasts(), 1);
        Check.due("crossings", crossings(z), 1);
        Check.due("lasts() behind them", z.lasts(), 0);
    }

    private static void needed() {
        CableFerry x = new CableFerry();
        Check.due("needed(), it can cross", x.needed(), 0);
        x.set(0, 50);
        x.current(0, 40);
        Check.due("needed(), an hour later", x.needed(), 1);
        for (int hour = 1; hour <= 4; hour++) {
            x.current(hour, 40);
        }
        Check.unchanged("needed()", x, () -> Check.due("needed(), five hours later", x.needed(), 5));
        x.current(5, 40);
        Check.due("needed(), no such number", x.needed(), CableFerry.NONE);
        x.current(3, 0);
        Check.due("needed(), three hours later", x.needed(), 3);
        for (int i = 0; i < 7; i++) {
            x.draw(5);
        }
        x.draw(3);
        x.current((x.count(0)) % 24, 40);
        x.current((x.count(0) + 1) % 24, 40);
        x.current((x.count(0) + 2) % 24, 40);
        x.current((x.count(0) + 3) % 24, 0);
        Check.due("needed(), not so many on the drum", x.needed(), CableFerry.NONE);
        x.current((x.count(0) + 2) % 24, 0);
        Check.due("needed(), just so many on the drum", x.needed(), 2);
        CableFerry y = new CableFerry();
        y.arrive(0, 20);
        y.load(0);
        Check.due("needed(), the list", y.needed(), CableFerry.NONE);
        neededBySlack();
    }

    private static void neededBySlack() {
        CableFerry x = new CableFerry();
        x.set(0, 999);
        x.set(1, 80);
        for (int i = 0; i < 4; i++) {
            x.arrive(0, 20);
            x.load(1);
        }
        x.cross();
        x.cross();
        x.cross();
        Check.due("why()", x.why(), 2);
        Check.due("needed(), the slack", x.needed(), 1);
    }

    private static void shares() {
        CableFerry x = new CableFerry();
        Check.dueBits("wornShare(), new", x.wornShare(), 0f);
        Check.dueBits("carriedShare(), none", x.carriedShare(), 1.0);
        x.set(2, 1);
        x.cross();
        Check.dueBits("wornShare()", x.wornShare(), 220f / 20000f);
        x.set(2, 50);
        for (int i = 0; i < 3; i++) {
            x.arrive(1, 2);
            x.load(0);
        }
        Check.unchanged("shares", x, () -> {
            Check.dueBits("carriedShare(), none drove off", x.carriedShare(), 1.0);
            x.wornShare();
        });
        x.unload();
        Check.dueBits("carriedShare(), turned back", x.carriedShare(), 0.0);
        x.arrive(1, 2);
        x.load(0);
        x.cross();
        x.unload();
        Check.dueBits("carriedShare()", x.carriedShare(), 1.0 / 4.0);
        x.arrive(0, 2);
        x.arrive(0, 2);
        x.load(0);
        x.load(1);
        x.cross();
        x.unload();
        Check.dueBits("carriedShare()", x.carriedShare(), 3.0 / 6.0);
        x.undo();
        Check.dueBits("carriedShare() undone", x.carriedShare(), 1.0 / 4.0);
    }

    private static void dueDigest(String when, CableFerry x, String buffer, boolean kept) {
        Check.due("digest() " + when, x.digest(), Hash.of(x, buffer, kept));
    }

    private static void digest() {
        CableFerry x = new CableFerry();
        dueDigest("new", x, "", false);
        Check.type(x, "a0:9;a0:8;a1:7;l0;l1;x;l1");
        dueDigest("with a buffer", x, "a0:9;a0:8;a1:7;l0;l1;x;l1", false);
        x.obey();
        dueDigest("with vehicles", x, "", false);
        x.keep();
        dueDigest("with a snapshot", x, "", true);
        Check.type(x, "u;x;w5;a0:3;l0;u;a0:20;a0:20;a1:19;l0~");
        dueDigest("with an error", x, "u;x;w5;a0:3;l0;u;a0:20;a0:20;a1:19;l0~", true);
        x.clearBuffer();
        x.set(2, 1);
        x.unload();
        for (int i = 0; i < 12; i++) {
            x.current(i, 3 * i);
            x.arrive(i % 2, i + 1);
            if (x.why() == 0) {
                x.cross();
            }
            if (Check.answer(() -> x.load(0)).length() > 2) {
                x.unload();
            }
            dueDigest("by the way", x, "", true);
        }
    }
}
