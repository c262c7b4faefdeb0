import java.math.BigInteger;
import java.util.List;
import java.util.function.Consumer;

/** "Promise 25" to "Promise 32": what would be, the shares, the hash. */
final class OutlookSentences {
    private static final int MIN = Integer.MIN_VALUE;
    private static final int MAX = Integer.MAX_VALUE;
    private static final int NONE = CableFerry.NONE;

    private OutlookSentences() {
    }

    static void all() {
        ifLoadedAndBestHour();
        leastList();
        lastsAndNeeded();
        shares();
        digest();
    }

    private static void ifLoadedAndBestHour() {
        Sentences.section("Promise 25: ifLoaded");
        Sentences.holds("Tells what a vehicle would do to the wire.", OutlookSentences::ifLoadedAsBehindLoad);
        Sentences.holds("- `lane`: 0 or 1", OutlookSentences::ifLoadedLane0Or1);
        Sentences.holds("Returns the greatest tension of a section, by the current of the hour of the day as it is now,"
            + " if the first vehicle that waits at the bank of the ferry stood on this lane, too; NONE if load() would"
            + " throw an IllegalStateException.", OutlookSentences::ifLoadedGreatestTensionOrNone);
        Sentences.holds("Throws `IndexOutOfBoundsException` if there is no such lane",
            OutlookSentences::ifLoadedNoSuchLane);
        Sentences.section("Promise 26: bestHour");
        Sentences.holds("Finds the best hour to cross.", OutlookSentences::bestHourOfEach);
        Sentences.holds("Returns in how many hours, 0 to 23, the greatest tension of a section would be least, with the"
            + " deck and the slack as they are now, of several the fewest.", OutlookSentences::bestHour0To23Fewest);
    }

    private static void leastList() {
        Sentences.section("Promise 27: leastList");
        Sentences.holds("Finds how vehicles had best be parted.", OutlookSentences::leastListPartsThem);
        Sentences.holds("- `vehicles`: 0 to 8", OutlookSentences::leastList0To8);
        Sentences.holds("Returns the least list that there can be if so many vehicles, the first ones that wait at the"
            + " bank of the ferry, each stand on one lane or the other, together with those on the deck, which stay on"
            + " their lanes, and no lane has more than 4; NONE if fewer wait there, or there is no such way.",
            OutlookSentences::leastListNoLaneHasMoreThan4);
        Sentences.holds("Throws `IllegalArgumentException` if vehicles is out of range",
            OutlookSentences::leastListOutOfRange);
    }

    private static void lastsAndNeeded() {
        Sentences.section("Promise 28: lasts");
        Sentences.holds("Tells how often the ferry can cross.", OutlookSentences::lastsAsOftenAsCross);
        Sentences.holds("Returns how many crossings are possible, one right behind the other from now on, with the"
            + " vehicles that are on the deck, but at most 100.", OutlookSentences::lastsAtMost100);
        Sentences.section("Promise 29: needed");
        Sentences.holds("Tells how much wire has to be drawn through.", OutlookSentences::neededAsBehindDraw);
        Sentences.holds("Returns 0 if the ferry can cross now; otherwise the fewest sections, 1 to 5, behind the"
            + " drawing of which it can cross (by the hour of the day as it is by then); NONE if there is no such"
            + " number, or there are not so many on the drum.", OutlookSentences::needed0Or1To5OrNone);
    }

    private static void shares() {
        Sentences.section("Promise 30: wornShare");
        Sentences.holds("Returns how worn the wire is.", OutlookSentences::wornShareOfTheWire);
        Sentences.holds("Returns the wears of all sections together, as a float, divided by 20000.",
            OutlookSentences::wornShareDividedBy20000);
        Sentences.section("Promise 31: carriedShare");
        Sentences.holds("Returns how many vehicles were carried.", OutlookSentences::carriedShareOfTheVehicles);
        Sentences.holds("Returns the vehicles that were carried so far, as a double, divided by those that drove off so"
            + " far (carried or turned back); 1.0 without these.", OutlookSentences::carriedShare1WithoutThese);
    }

    private static void digest() {
        Sentences.section("Promise 32: digest");
        Sentences.holds("Computes a hash of the whole state.", OutlookSentences::digestOfTheWholeState);
        Sentences.holds("The hash starts at 3301.", OutlookSentences::digestStartsAt3301);
        Sentences.holds("For each value v of the following list, in order, the hash becomes 31 * hash + v, in long"
            + " arithmetic with overflow.", OutlookSentences::digestWithOverflow);
        Sentences.holds("The values are: count(0) to count(13); the settings 0 to 2; the currents of the hours 0 to 23;"
            + " for each section its numbers 0 to 2; for each bank how many vehicles wait, and their weights; for each"
            + " lane how many vehicles are on it, and the numbers 0 and 1 of each; why; weakest; ifLoaded of the lanes"
            + " 0 and 1; bestHour; leastList of 1 to 4; lasts; needed; the bits of wornShare (as"
            + " Float.floatToIntBits); the bits of carriedShare (as Double.doubleToLongBits); 1 if there is a"
            + " snapshot, otherwise 0; the length of the buffer and each of its character codes.",
            OutlookSentences::digestOfTheseValues);
        Sentences.holds("Returns the hash.", OutlookSentences::digestReturnsTheHash);
    }

    private static int greatestTension(CableFerry x) {
        int greatest = 0;
        for (int k = 0; k < 20; k++) {
            greatest = Math.max(greatest, x.section(k, 2));
        }
        return greatest;
    }

    private static void ifLoadedAsBehindLoad() {
        CableFerry x = new CableFerry();
        Scene.fill(x, 0);
        for (int i = 0; i < 6; i++) {
            int lane = i / 2 % 2;
            int other = x.ifLoaded(1 - lane);
            int told = x.ifLoaded(lane);
            x.load(1 - lane);
            Check.due("ifLoaded() of the other lane", other, greatestTension(x));
            x.undo();
            x.load(lane);
            Check.due("ifLoaded()", told, greatestTension(x));
        }
    }

    private static void ifLoadedLane0Or1() {
        CableFerry x = new CableFerry();
        Scene.obey(x, "a0:6;a0:4;l1");
        // 10 * 30 / 10 and 3 times 2 or 10.
        Check.due("ifLoaded(0)", x.ifLoaded(0), 36);
        Check.due("ifLoaded(1)", x.ifLoaded(1), 60);
    }

    private static void ifLoadedGreatestTensionOrNone() {
        CableFerry x = new CableFerry();
        Check.due("none waits", x.ifLoaded(0), NONE);
        x.arrive(1, 20);
        Check.due("one waits at the other bank alone", x.ifLoaded(1), NONE);
        x.arrive(0, 1);
        x.arrive(0, 20);
        x.current(1, 40);
        Check.due("the first of two, by the current of now: 10 * 21 / 10 and 3", x.ifLoaded(0), 24);
        x.pass(1);
        Check.due("an hour later", x.ifLoaded(0), 87);
        x.pass(24);
        Check.due("a day later", x.ifLoaded(0), 87);
        x.cross();
        Check.due("at the bank 1", x.ifLoaded(0), 100 - 4 * x.count(5));
        fullLanes();
        CableFerry y = Scene.calm();
        Scene.crossWithLists(y, 80);
        y.unload();
        y.arrive(1, 12);
        Check.due("36 less 36", y.ifLoaded(0), 0);
        y.load(0);
        y.arrive(1, 12);
        Check.due("0 less 36 is at least 0", y.ifLoaded(1), 0);
        y.arrive(1, 1);
        Check.due("72 less 36", y.ifLoaded(0), 36);
    }

    private static void fullLanes() {
        CableFerry x = new CableFerry();
        Scene.fill(x, 0);
        for (int i = 0; i < 3; i++) {
            x.load(0);
        }
        // 10 * 30 / 10 and 3 times 10; with the fourth on the lane 1 3 times 2.
        Check.due("the fourth on the lane 0", x.ifLoaded(0), 60);
        Check.due("the fourth on the lane 1", x.ifLoaded(1), 36);
        x.load(0);
        Check.due("a fifth on the lane 0", x.ifLoaded(0), NONE);
        Check.due("the lane 1", x.ifLoaded(1), 35 + 15);
        for (int i = 0; i < 4; i++) {
            x.load(1);
        }
        Check.due("a fifth on the lane 0", x.ifLoaded(0), NONE);
        Check.due("a fifth on the lane 1", x.ifLoaded(1), NONE);
    }

    private static void ifLoadedNoSuchLane() {
        CableFerry x = Scene.busy();
        Check.unchanged("no such lane", x, () -> {
            Check.noIndex("ifLoaded(-1)", () -> x.ifLoaded(-1));
            Check.noIndex("ifLoaded(2)", () -> x.ifLoaded(2));
            Check.noIndex("ifLoaded(MIN)", () -> x.ifLoaded(MIN));
            Check.noIndex("ifLoaded(MAX)", () -> x.ifLoaded(MAX));
        });
        Check.noIndex("ifLoaded(2) where none waits", () -> new CableFerry().ifLoaded(2));
    }

    private static void bestHourOfEach() {
        for (int hours = 0; hours <= 30; hours += 5) {
            for (int best = 0; best < 24; best++) {
                CableFerry x = new CableFerry();
                Scene.pass(x, hours);
                x.current((hours + best) % 24, 9);
                Check.due("bestHour() at " + hours, x.bestHour(), best);
            }
        }
    }

    private static void bestHour0To23Fewest() {
        CableFerry x = new CableFerry();
        Check.due("bestHour(), all alike", x.bestHour(), 0);
        x.current(0, 11);
        Check.due("bestHour(), all but this one alike", x.bestHour(), 1);
        x.current(23, 9);
        Check.due("bestHour(), the last of the day", x.bestHour(), 23);
        x.current(22, 9);
        Check.due("bestHour(), the fewest of two", x.bestHour(), 22);
        x.pass(23);
        Check.due("bestHour(), now", x.bestHour(), 0);
        x.pass(1);
        Check.due("bestHour(), a day later", x.bestHour(), 22);
        x.current(0, 9);
        x.pass(1);
        x.current(22, 10);
        x.current(23, 10);
        Check.due("bestHour(), the hour that has just gone", x.bestHour(), 23);
        bestHourWithTheDeckAndTheSlack();
    }

    private static void bestHourWithTheDeckAndTheSlack() {
        CableFerry x = new CableFerry();
        Scene.obey(x, "x;x;x");
        Check.due("slack", x.count(5), 1);
        x.current(6, 2);
        x.current(8, 0);
        Check.due("bestHour(), 4 less 4 is 0 as well", x.bestHour(), 3);
        x.current(6, 3);
        Check.due("bestHour(), 6 less 4 is not", x.bestHour(), 5);
        x.current(6, 2);
        Scene.add(x, 0, 1);
        // By the list 1: 2 * 21 / 10 is 4, and 3, less 4; by the current 0 it is at least 0.
        Check.due("bestHour() with the list 1", x.bestHour(), 5);
    }

    private static void leastListPartsThem() {
        CableFerry x = new CableFerry();
        Scene.obey(x, "a0:8;a0:7;a0:6;a0:5;a0:4;a0:2;a0:1;a0:20");
        // With 8 of them, 20 + 4 + 2 + 1 against 8 + 7 + 6 + 5.
        int[] due = {0, 8, 1, 5, 0, 0, 0, 1, 1};
        for (int vehicles = 1; vehicles <= 8; vehicles++) {
            Check.due("leastList(" + vehicles + ")", x.leastList(vehicles), due[vehicles]);
        }
        CableFerry y = new CableFerry();
        Scene.obey(y, "a0:20;a0:1;l1");
        Check.due("leastList(1), opposite to the one on the deck", y.leastList(1), 19);
    }

    private static void leastList0To8() {
        CableFerry x = new CableFerry();
        Check.due("leastList(0), none waits, none on the deck", x.leastList(0), 0);
        Scene.fill(x, 0);
        int[] due = {0, 1, 1, 0, 0, 1, 1, 0, 0};
        for (int vehicles = 0; vehicles <= 8; vehicles++) {
            Check.due("leastList(" + vehicles + ")", x.leastList(vehicles), due[vehicles]);
        }
        x.load(1);
        x.load(1);
        Check.due("leastList(0), the list as it is", x.leastList(0), 3);
    }

    private static void leastListNoLaneHasMoreThan4() {
        CableFerry x = new CableFerry();
        Scene.obey(x, "a0:1;a0:1;a0:1;a0:1;a0:1;a0:20;a0:20;a0:20;a0:20");
        Check.due("leastList(8), 20, 20, 1, 1 against 20, 1, 1, 1", x.leastList(8), 19);
        x.load(0);
        x.load(0);
        x.load(0);
        Check.due("leastList(2), 1 and 1 on the lane 1", x.leastList(2), 1);
        Check.due("leastList(5), 20 on the lane 0: 23 against 42", x.leastList(5), 19);
        Check.due("leastList(6), no way", x.leastList(6), NONE);
        x.load(0);
        Check.due("leastList(1), on the lane 1 alone", x.leastList(1), 3);
        Check.due("leastList(2), on the lane 1 alone", x.leastList(2), 17);
        Check.due("leastList(4), on the lane 1 alone", x.leastList(4), 57);
        Check.due("leastList(5), no way", x.leastList(5), NONE);
        fullDeck(x);
        neverFiveOnALane(0);
        neverFiveOnALane(1);
        CableFerry y = new CableFerry();
        Scene.obey(y, "a0:5;a0:4;a1:9;a1:9;a1:9");
        Check.due("leastList(2) at the bank 0", y.leastList(2), 1);
        Check.due("leastList(3), two wait there", y.leastList(3), NONE);
        y.cross();
        Check.due("leastList(3) at the bank 1", y.leastList(3), 9);
        Check.due("leastList(4), three wait there", y.leastList(4), NONE);
        y.arrive(1, 19);
        Check.due("leastList(1), the first one", y.leastList(1), 9);
        Check.due("leastList(4)", y.leastList(4), 8);
    }

    /** All five beside three of 20 would be even, but four of them are the most. */
    private static void neverFiveOnALane(int lane) {
        CableFerry x = new CableFerry();
        Scene.add(x, 1 - lane, 60);
        for (int i = 0; i < 5; i++) {
            x.arrive(0, 12);
        }
        Check.due("leastList(4), 48 against 60", x.leastList(4), 12);
        Check.due("leastList(5), 48 against 72", x.leastList(5), 24);
    }

    private static void fullDeck(CableFerry x) {
        for (int i = 0; i < 4; i++) {
            x.load(1);
        }
        Check.due("leastList(0) of a full deck", x.leastList(0), 57);
        Check.due("leastList(1), no way", x.leastList(1), NONE);
        Check.due("leastList(2), one waits", x.leastList(2), NONE);
        x.unload();
        x.load(0);
        Check.due("leastList(0), none waits any more", x.leastList(0), 20);
        Check.due("leastList(1), none waits any more", x.leastList(1), NONE);
    }

    private static void leastListOutOfRange() {
        CableFerry x = new CableFerry();
        Scene.fill(x, 0);
        Check.unchanged("vehicles out of range", x, () -> {
            Check.badArgument("leastList(-1)", () -> x.leastList(-1));
            Check.badArgument("leastList(9), 10 wait", () -> x.leastList(9));
            Check.badArgument("leastList(32)", () -> x.leastList(32));
            Check.badArgument("leastList(MIN)", () -> x.leastList(MIN));
            Check.badArgument("leastList(MAX)", () -> x.leastList(MAX));
        });
        Check.badArgument("leastList(9), none waits", () -> new CableFerry().leastList(9));
    }

    /** Crosses as often as it can, at most so often. */
    private static int crossings(CableFerry x, int most) {
        int crossings = 0;
        while (crossings < most && x.why() == 0) {
            x.cross();
            crossings++;
        }
        return crossings;
    }

    private static void lastsAsOftenAsCross() {
        CableFerry x = Scene.busy();
        x.set(0, 110);
        x.set(2, 1);
        int told = x.lasts();
        Check.due("lasts() is 2 or more, and below 100", told > 1 && told < 100 ? 1 : 0, 1);
        Check.due("lasts()", told, crossings(x, 100));
        Check.due("lasts() then", x.lasts(), 0);
        CableFerry y = Scene.calm();
        Scene.stand(y, 0, 80);
        for (int left = 4; left > 0; left--) {
            Check.due("lasts() with the list 80", y.lasts(), left);
            y.cross();
        }
        Check.due("lasts() with the slack 30", y.lasts(), 0);
    }

    /** By the current 1 the sections 9 and 10 have a tension of 2, and 1 less strength with each crossing. */
    private static CableFerry wornByEachCrossing(int strength) {
        CableFerry x = Scene.calm();
        for (int hour = 0; hour < 24; hour++) {
            x.current(hour, 1);
        }
        x.set(0, strength);
        return x;
    }

    private static void lastsAtMost100() {
        int[] due = {99, 100, 100, 100};
        for (int i = 0; i < 4; i++) {
            CableFerry x = wornByEachCrossing(100 + i);
            Check.due("lasts() with the strength " + (100 + i), x.lasts(), due[i]);
            Check.due("crossings", crossings(x, 200), 99 + i);
        }
        CableFerry x = new CableFerry();
        Check.due("lasts() of a new ferry", x.lasts(), 100);
        Scene.add(x, 0, 13);
        Check.due("lasts(), the list", x.lasts(), 0);
        Check.due("lasts(), the slack 26", Scene.slackened(44).lasts(), 0);
        x.set(1, 13);
        x.set(0, 58);
        Check.due("lasts(), the wire", x.lasts(), 0);
        x.unload();
        Check.due("lasts() with an empty deck", x.lasts(), 100);
        lastsFromNowOn();
    }

    private static void lastsFromNowOn() {
        CableFerry x = new CableFerry();
        x.set(0, 50);
        x.current(3, 40);
        Check.due("lasts() up to the hour 3", x.lasts(), 3);
        x.pass(20);
        Check.due("lasts() from the hour 20 up to the hour 27", x.lasts(), 7);
        x.arrive(0, 20);
        Check.due("lasts(), one waits but does not drive on", x.lasts(), 7);
        CableFerry y = Scene.calm();
        Scene.stand(y, 0, 80);
        y.set(0, 300);
        y.set(2, 50);
        // It would cross at the hours 0, 1, 3 and 6, by the slack.
        y.current(2, 40);
        Check.due("lasts(), not at the hour 2", y.lasts(), 4);
        y.current(3, 40);
        Check.due("lasts(), at the hour 3", y.lasts(), 2);
    }

    private static void neededAsBehindDraw() {
        for (int due = 1; due <= 5; due++) {
            CableFerry x = new CableFerry();
            x.set(0, 50);
            for (int hour = 0; hour < due; hour++) {
                x.current(hour, 40);
            }
            Check.due("needed()", x.needed(), due);
            for (int n = 1; n < due; n++) {
                x.draw(n);
                Check.due("why() behind draw(" + n + ")", x.why(), 3);
                x.undo();
            }
            x.draw(due);
            Check.due("why() behind draw(" + due + ")", x.why(), 0);
            Check.due("needed() then", x.needed(), 0);
        }
    }

    private static CableFerry blockedFor(int firstHour, int hours) {
        CableFerry x = new CableFerry();
        x.set(0, 50);
        Scene.pass(x, firstHour);
        for (int hour = firstHour; hour < firstHour + hours; hour++) {
            x.current(hour % 24, 40);
        }
        return x;
    }

    private static void needed0Or1To5OrNone() {
        Check.due("needed(), it can cross", new CableFerry().needed(), 0);
        Check.due("needed(), an empty drum, but it can cross", Scene.emptyDrum().needed(), 0);
        Check.due("needed(), an hour", blockedFor(0, 1).needed(), 1);
        Check.due("needed(), 5 hours", blockedFor(0, 5).needed(), 5);
        Check.due("needed(), 6 hours", blockedFor(0, 6).needed(), NONE);
        Check.due("needed(), from 22 up to 25 by the hour of the day", blockedFor(22, 3).needed(), 3);
        Check.due("needed(), from 47 up to 51", blockedFor(47, 4).needed(), 4);
        CableFerry x = blockedFor(0, 5);
        x.current(2, 10);
        Check.due("needed(), the fewest of 2 and 5", x.needed(), 2);
        CableFerry y = new CableFerry();
        Scene.add(y, 0, 13);
        Check.due("needed(), the list", y.needed(), NONE);
        Check.due("needed(), the slack 26", Scene.slackened(44).needed(), 1);
        neededWithLittleOnTheDrum();
        neededByTheWear(13, NONE);
        neededByTheWear(14, 5);
        neededByTheWear(17, 2);
        neededByTheWear(18, 1);
        neededByTheWear(19, 0);
    }

    private static void neededWithLittleOnTheDrum() {
        for (int drum = 0; drum <= 5; drum++) {
            CableFerry x = new CableFerry();
            for (int left = 40 - drum; left > 0; left -= 5) {
                x.draw(Math.min(5, left));
            }
            x.set(0, 50);
            for (int hours = 1; hours <= 6; hours++) {
                x.current((x.count(0) + hours - 1) % 24, 40);
                int due = hours <= drum && hours <= 5 ? hours : NONE;
                Check.due("needed(), " + hours + " with a drum of " + drum, x.needed(), due);
            }
        }
    }

    /** Sections 0 to 18 are worn out, and drawn through by so many. */
    private static void neededByTheWear(int drawn, int due) {
        CableFerry x = Scene.wornOut();
        for (int left = drawn; left > 0; left -= 5) {
            x.draw(Math.min(5, left));
        }
        Scene.stand(x, 0, 1);
        x.set(0, 502);
        Check.due("needed(), " + drawn + " were drawn", x.needed(), due);
    }

    private static void wornShareOfTheWire() {
        CableFerry x = new CableFerry();
        Check.dueBits("wornShare() of a new wire", x.wornShare(), 0f);
        x.set(2, 1);
        x.cross();
        Check.dueBits("wornShare()", x.wornShare(), 0.011f);
        x.draw(5);
        Check.dueBits("wornShare() behind draw(5)", x.wornShare(), 190f / 20000f);
        for (int i = 0; i < 3; i++) {
            x.draw(5);
        }
        Check.dueBits("wornShare() behind 20", x.wornShare(), 0f);
    }

    private static void wornShareDividedBy20000() {
        CableFerry x = wornByEachCrossing(999);
        x.set(2, 2);
        x.cross();
        // The least that there is: 1 in the sections 9 and 10.
        Check.dueBits("wornShare()", x.wornShare(), 2f / 20000f);
        x.cross();
        x.cross();
        Check.dueBits("wornShare()", x.wornShare(), 6f / 20000f);
        Check.dueBits("wornShare(), 19 times 1000 and 240", Scene.wornOut().wornShare(), 19240f / 20000f);
        CableFerry y = Scene.calm();
        Scene.crossWithLists(y, 1, 80, 79);
        Check.dueBits("wornShare()", y.wornShare(), 20 * y.section(0, 0) / 20000f);
    }

    private static void carriedShareOfTheVehicles() {
        CableFerry x = new CableFerry();
        Scene.obey(x, "a0:1;a0:1;l0;l1;x;u;a1:1;a1:1;l0;x;u;x;l0;u");
        Check.dueBits("carriedShare()", x.carriedShare(), 3.0 / 4.0);
        Scene.obey(x, "a1:1;a1:1;a1:1;l0;l1;l0;u");
        Check.dueBits("carriedShare()", x.carriedShare(), 3.0 / 7.0);
        x.undo();
        Check.dueBits("carriedShare(), undone", x.carriedShare(), 0.75);
        x.arrive(0, 1);
        x.arrive(1, 1);
        Check.dueBits("carriedShare(), two more wait", x.carriedShare(), 0.75);
    }

    private static void carriedShare1WithoutThese() {
        CableFerry x = new CableFerry();
        Check.dueBits("carriedShare() of a new ferry", x.carriedShare(), 1.0);
        x.unload();
        Check.dueBits("carriedShare(), none drove off", x.carriedShare(), 1.0);
        Scene.add(x, 0, 5);
        Check.dueBits("carriedShare(), one on the deck", x.carriedShare(), 1.0);
        x.unload();
        Check.dueBits("carriedShare(), one turned back", x.carriedShare(), 0.0);
        Scene.add(x, 0, 5);
        x.cross();
        x.unload();
        Check.dueBits("carriedShare(), one of two", x.carriedShare(), 0.5);
        Scene.add(x, 0, 5);
        x.unload();
        Check.dueBits("carriedShare(), one of three", x.carriedShare(), 1.0 / 3.0);
        CableFerry y = new CableFerry();
        Scene.add(y, 0, 5);
        y.cross();
        y.unload();
        Check.dueBits("carriedShare(), all", y.carriedShare(), 1.0);
    }

    private static void differs(String what, Consumer<CableFerry> one, Consumer<CableFerry> other) {
        CableFerry x = new CableFerry();
        CableFerry y = new CableFerry();
        one.accept(x);
        other.accept(y);
        Check.due("digest() is the same: " + what, x.digest() == y.digest() ? 1 : 0, 0);
    }

    private static void digestOfTheWholeState() {
        differs("the hours", x -> x.pass(24), x -> x.pass(48));
        differs("a current", x -> x.current(23, 11), x -> x.current(23, 12));
        differs("a setting", x -> x.set(2, 10), x -> x.set(2, 11));
        differs("a weight that waits", x -> x.arrive(1, 1), x -> x.arrive(1, 2));
        differs("a bank", x -> x.arrive(0, 1), x -> x.arrive(1, 1));
        differs("a lane", x -> Scene.add(x, 0, 1), x -> Scene.add(x, 1, 1));
        differs("the bank where it drove on", x -> Scene.obey(x, "a0:1;a1:1;l0;x;x"),
            x -> Scene.obey(x, "a0:1;a1:1;x;l0;x"));
        differs("the order on a lane", x -> Scene.obey(x, "a0:1;a0:2;l0;l0"), x -> Scene.obey(x, "a0:2;a0:1;l0;l0"));
        differs("saved states", x -> x.unload(), x -> x.digest());
        differs("the snapshot", x -> x.keep(), x -> x.digest());
        differs("the buffer", x -> x.append('u'), x -> x.append('x'));
        differs("the buffer's length", x -> x.append('u'), x -> x.digest());
        CableFerry x = new CableFerry();
        CableFerry y = new CableFerry();
        Scene.obey(x, "a0:1;a0:2;l0;l1;x;u");
        Scene.obey(y, "a0:1;a0:2;l0;l1;x;u");
        Check.due("digest() of two alike", x.digest(), y.digest());
    }

    private static void digestStartsAt3301() {
        // Worked out from the values of a new ferry by another program than the class.
        Check.due("digest() of a new ferry", new CableFerry().digest(), -664522702359094794L);
    }

    private static void digestWithOverflow() {
        CableFerry x = Scene.busy();
        Check.type(x, "a0:20;~");
        BigInteger hash = BigInteger.valueOf(3301);
        for (long value : Hash.values(x, "a0:20;~", true)) {
            hash = hash.multiply(BigInteger.valueOf(31)).add(BigInteger.valueOf(value));
        }
        Check.due("bits of the whole hash above 64", hash.bitLength() > 64 ? 1 : 0, 1);
        Check.due("digest()", x.digest(), hash.longValue());
    }

    private static void dueDigest(String when, CableFerry x, String buffer, boolean kept) {
        Check.due("digest() " + when, x.digest(), Hash.of(x, buffer, kept));
    }

    private static void digestOfTheseValues() {
        CableFerry x = new CableFerry();
        dueDigest("of a new ferry", x, "", false);
        List<Long> values = Hash.values(x, "", false);
        Check.due("values of a new ferry", values.size(), 14 + 3 + 24 + 60 + 2 + 2 + 15);
        Scene.fill(x, 0);
        dueDigest("with 10 at the bank 0", x, "", false);
        Scene.fill(x, 1);
        dueDigest("with 10 at each bank", x, "", false);
        for (int i = 0; i < 8; i++) {
            x.load(i % 2);
            dueDigest("with " + (i + 1) + " on the deck", x, "", false);
        }
        x.keep();
        dueDigest("with a snapshot", x, "", true);
        StringBuilder buffer = new StringBuilder();
        for (int i = 0; i < 60; i++) {
            char sign = (char) (33 + i * 93 / 59);
            x.append(sign);
            buffer.append(sign);
            dueDigest("with " + (i + 1) + " characters", x, buffer.toString(), true);
        }
        x.clearBuffer();
        dueDigest("with an empty buffer", x, "", true);
        dueDigest("with a slack of 30", slackOf30(), "", true);
        dueDigest("of a worn wire", Scene.wornOut(), "", false);
        dueDigest("with an empty drum", Scene.emptyDrum(), "", false);
        digestOfShares();
    }

    private static CableFerry slackOf30() {
        CableFerry x = Scene.slackened(43);
        Scene.crossWithLists(x, 80);
        return Scene.withOneSaved(x);
    }

    /** The bits of each share that a few vehicles and a little wear can come to. */
    private static void digestOfShares() {
        CableFerry x = wornByEachCrossing(999);
        x.set(2, 2);
        for (int i = 0; i < 50; i++) {
            Scene.add(x, i % 2, 1);
            if (i % 3 != 0) {
                x.cross();
            }
            if (i % 5 != 0) {
                x.unload();
            }
            if (x.count(2) == 0 || i % 7 == 0) {
                dueDigest("with shares, " + i, x, "", false);
            }
            if (x.count(2) > 3) {
                x.unload();
            }
        }
    }

    private static void digestReturnsTheHash() {
        CableFerry x = Scene.busy();
        long digest = x.digest();
        Check.due("digest()", digest, Hash.of(x, "", true));
        Check.due("digest() again", x.digest(), digest);
        Check.due("digest() of one made alike", Scene.busy().digest(), digest);
        Check.due("digest() is more than an int", digest == (int) digest ? 1 : 0, 0);
    }
}
