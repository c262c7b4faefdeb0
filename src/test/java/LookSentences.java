/** "Promise 17" to "Promise 24": looks. */
final class LookSentences {
    private static final int MIN = Integer.MIN_VALUE;
    private static final int MAX = Integer.MAX_VALUE;

    private LookSentences() {
    }

    static void all() {
        section();
        waiting();
        deck();
        count();
        currentOfAndSetting();
        whyAndWeakest();
    }

    private static void section() {
        Sentences.section("Promise 17: section");
        Sentences.holds("Returns something of a section of the wire.", LookSentences::sectionOfEachSection);
        Sentences.holds("- `section`: 0 to 19", LookSentences::section0To19);
        Sentences.holds("- `what`: 0: its wear; 1: its strength; 2: its tension by the current of the hour of the day"
            + " as it is now", LookSentences::sectionWearStrengthTension);
        Sentences.holds("Returns the number.", LookSentences::sectionReturnsTheNumber);
        Sentences.holds("Throws `IndexOutOfBoundsException` if there is no such section",
            LookSentences::sectionNoSuchSection);
        Sentences.holds("Throws `IllegalArgumentException` if what is not 0 to 2", LookSentences::sectionWhatNot0To2);
    }

    private static void waiting() {
        Sentences.section("Promise 18: waiting");
        Sentences.holds("Returns the weight of a vehicle that waits.", LookSentences::waitingTheWeight);
        Sentences.holds("- `bank`: 0 or 1", LookSentences::waitingAtBank0Or1);
        Sentences.holds("- `place`: its place among those that wait there, from 0", LookSentences::waitingPlaceFrom0);
        Sentences.holds("Returns its weight, NONE if there are not so many.", LookSentences::waitingNotSoMany);
        Sentences.holds("Throws `IndexOutOfBoundsException` if there is no such bank",
            LookSentences::waitingNoSuchBank);
        Sentences.holds("Throws `IllegalArgumentException` if place is below 0", LookSentences::waitingPlaceBelow0);
    }

    private static void deck() {
        Sentences.section("Promise 19: deck");
        Sentences.holds("Returns something of a vehicle on the deck.", LookSentences::deckOfEachVehicle);
        Sentences.holds("- `lane`: 0 or 1", LookSentences::deckLane0Or1);
        Sentences.holds("- `place`: its place on the lane, from 0", LookSentences::deckPlaceFrom0);
        Sentences.holds("- `what`: 0: its weight; 1: the bank where it drove on", LookSentences::deckWeightAndBank);
        Sentences.holds("Returns the number, NONE if there are not so many on the lane.",
            LookSentences::deckNotSoMany);
        Sentences.holds("Throws `IndexOutOfBoundsException` if there is no such lane", LookSentences::deckNoSuchLane);
        Sentences.holds("Throws `IllegalArgumentException` if place is below 0, or what is not 0 or 1",
            LookSentences::deckPlaceBelow0OrWhatNot0Or1);
    }

    private static void count() {
        Sentences.section("Promise 20: count");
        Sentences.holds("Returns a number.", LookSentences::countOfANewFerry);
        Sentences.holds("- `what`: 0: the hours that have gone; 1: the bank of the ferry; 2: vehicles on the deck; 3:"
            + " their weights together; 4: the list; 5: the slack; 6: the stretch; 7: the sections on the drum; 8:"
            + " crossings so far; 9: vehicles that arrived so far; 10: those that were carried so far; 11: those that"
            + " were turned back so far; 12: hours that vehicles waited at the banks so far, all together; 13: saved"
            + " states", LookSentences::countEach);
        Sentences.holds("Returns the number.", LookSentences::countGreatest);
        Sentences.holds("Throws `IllegalArgumentException` if what is not 0 to 13", LookSentences::countNot0To13);
    }

    private static void currentOfAndSetting() {
        Sentences.section("Promise 21: currentOf");
        Sentences.holds("Returns the current of an hour of the day.", LookSentences::currentOfEachHour);
        Sentences.holds("- `hour`: 0 to 23", LookSentences::currentOf0To23);
        Sentences.holds("Returns its current.", LookSentences::currentOfReturnsItsCurrent);
        Sentences.holds("Throws `IndexOutOfBoundsException` if there is no such hour of the day",
            LookSentences::currentOfNoSuchHour);
        Sentences.section("Promise 22: setting");
        Sentences.holds("Returns a setting.", LookSentences::settingOfEach);
        Sentences.holds("- `setting`: 0 to 2", LookSentences::setting0To2);
        Sentences.holds("Returns its value.", LookSentences::settingReturnsItsValue);
        Sentences.holds("Throws `IndexOutOfBoundsException` if there is no such setting",
            LookSentences::settingNoSuchSetting);
    }

    private static void whyAndWeakest() {
        Sentences.section("Promise 23: why");
        Sentences.holds("Tells why the ferry cannot cross now.", LookSentences::whyAsCrossTells);
        Sentences.holds("Returns the reason, 1 to 3; 0 if it can cross.", LookSentences::whyReturns1To3Or0);
        Sentences.section("Promise 24: weakest");
        Sentences.holds("Finds the weakest section.", LookSentences::weakestFindsEach);
        Sentences.holds("Returns the section with the least of its strength less its tension, both as section() tells"
            + " them, of several the lowest.", LookSentences::weakestOfSeveralTheLowest);
    }

    private static void sectionOfEachSection() {
        CableFerry x = Scene.busy();
        for (int k = 0; k < 20; k++) {
            int wear = x.section(k, 0);
            Check.due("strength of " + k, x.section(k, 1), 300 - wear / 2);
            int pull = x.currentOf(x.count(0) % 24) * Math.min(k + 1, 20 - k) / 10 * (20 + x.count(3)) / 10;
            Check.due("tension of " + k, x.section(k, 2), Math.max(0, pull + 3 * x.count(4) - 4 * x.count(5)));
        }
    }

    private static void section0To19() {
        CableFerry x = new CableFerry();
        x.set(2, 1);
        x.cross();
        Check.due("section(0, 0)", x.section(0, 0), 2);
        Check.due("section(9, 0)", x.section(9, 0), 20);
        Check.due("section(10, 0)", x.section(10, 0), 20);
        Check.due("section(19, 0)", x.section(19, 0), 2);
    }

    private static void sectionWearStrengthTension() {
        CableFerry x = new CableFerry();
        x.set(2, 1);
        x.current(1, 30);
        x.cross();
        Check.due("section(9, 0)", x.section(9, 0), 20);
        Check.due("section(9, 1)", x.section(9, 1), 290);
        Check.due("section(9, 2) by the current of the hour 1", x.section(9, 2), 60);
        x.pass(23);
        Check.due("section(9, 2) by the current of the hour 0, a day later", x.section(9, 2), 20);
        x.pass(1);
        Check.due("section(9, 2) by the current of the hour 1, a day later", x.section(9, 2), 60);
        x.current(1, 0);
        Check.due("section(9, 2) at once", x.section(9, 2), 0);
    }

    private static void sectionReturnsTheNumber() {
        CableFerry x = Scene.wornOut();
        Check.due("the greatest wear", x.section(0, 0), 1000);
        Check.due("its strength", x.section(0, 1), 499);
        x.set(0, 50);
        Check.due("the least strength", x.section(0, 1), 0);
        x.unload();
        Check.due("the least tension, by the slack", x.section(0, 2), 0);
        CableFerry y = new CableFerry();
        y.current(0, 40);
        y.set(0, 999);
        Check.due("the greatest strength", y.section(0, 1), 999);
        Scene.add(y, 1, 80);
        Check.due("the greatest tension with one lane", y.section(10, 2), 400 + 240);
        Scene.add(y, 0, 80);
        Check.due("the greatest tension with both", y.section(10, 2), 720);
    }

    private static void sectionNoSuchSection() {
        CableFerry x = Scene.busy();
        Check.unchanged("no such section", x, () -> {
            for (int what = 0; what <= 3; what++) {
                int w = what;
                Check.noIndex("section(-1, " + w + ")", () -> x.section(-1, w));
                Check.noIndex("section(20, " + w + ")", () -> x.section(20, w));
                Check.noIndex("section(MIN, " + w + ")", () -> x.section(MIN, w));
                Check.noIndex("section(MAX, " + w + ")", () -> x.section(MAX, w));
            }
        });
    }

    private static void sectionWhatNot0To2() {
        CableFerry x = Scene.busy();
        Check.unchanged("what is not 0 to 2", x, () -> {
            Check.badArgument("section(0, -1)", () -> x.section(0, -1));
            Check.badArgument("section(0, 3)", () -> x.section(0, 3));
            Check.badArgument("section(19, MIN)", () -> x.section(19, MIN));
            Check.badArgument("section(19, MAX)", () -> x.section(19, MAX));
        });
    }

    private static void waitingTheWeight() {
        CableFerry x = new CableFerry();
        x.arrive(0, 1);
        x.arrive(0, 20);
        Check.due("waiting(0, 0)", x.waiting(0, 0), 1);
        Check.due("waiting(0, 1)", x.waiting(0, 1), 20);
        x.load(0);
        Check.due("waiting(0, 0) behind load()", x.waiting(0, 0), 20);
        Check.due("waiting(0, 1) behind load()", x.waiting(0, 1), CableFerry.NONE);
    }

    private static void waitingAtBank0Or1() {
        CableFerry x = new CableFerry();
        x.arrive(1, 7);
        Check.due("waiting(0, 0)", x.waiting(0, 0), CableFerry.NONE);
        Check.due("waiting(1, 0)", x.waiting(1, 0), 7);
        x.cross();
        x.arrive(0, 8);
        Check.due("waiting(0, 0), the ferry at the bank 1", x.waiting(0, 0), 8);
        Check.due("waiting(1, 0), the ferry at the bank 1", x.waiting(1, 0), 7);
    }

    private static void waitingPlaceFrom0() {
        CableFerry x = new CableFerry();
        Scene.fill(x, 1);
        for (int place = 0; place < 10; place++) {
            Check.due("waiting(1, " + place + ")", x.waiting(1, place), place + 1);
        }
    }

    private static void waitingNotSoMany() {
        CableFerry x = new CableFerry();
        Check.due("waiting(0, 0), none waits", x.waiting(0, 0), CableFerry.NONE);
        x.arrive(0, 3);
        Check.due("waiting(0, 0)", x.waiting(0, 0), 3);
        Check.due("waiting(0, 1), one waits", x.waiting(0, 1), CableFerry.NONE);
        Check.due("waiting(0, 9), one waits", x.waiting(0, 9), CableFerry.NONE);
        x.load(0);
        Check.due("waiting(0, 0), it drove on", x.waiting(0, 0), CableFerry.NONE);
        Scene.fill(x, 0);
        Check.due("waiting(0, 9), 10 wait", x.waiting(0, 9), 10);
        Check.due("waiting(0, 10), 10 wait", x.waiting(0, 10), CableFerry.NONE);
        Check.due("waiting(0, MAX)", x.waiting(0, MAX), CableFerry.NONE);
    }

    private static void waitingNoSuchBank() {
        CableFerry x = Scene.busy();
        Check.unchanged("no such bank", x, () -> {
            Check.noIndex("waiting(-1, 0)", () -> x.waiting(-1, 0));
            Check.noIndex("waiting(2, 0)", () -> x.waiting(2, 0));
            Check.noIndex("waiting(MIN, 0)", () -> x.waiting(MIN, 0));
            Check.noIndex("waiting(MAX, 0)", () -> x.waiting(MAX, 0));
            Check.noIndex("waiting(2, -1)", () -> x.waiting(2, -1));
        });
    }

    private static void waitingPlaceBelow0() {
        CableFerry x = new CableFerry();
        Scene.fill(x, 0);
        Check.unchanged("place below 0", x, () -> {
            Check.badArgument("waiting(0, -1)", () -> x.waiting(0, -1));
            Check.badArgument("waiting(0, MIN)", () -> x.waiting(0, MIN));
            Check.badArgument("waiting(1, -1), none waits", () -> x.waiting(1, -1));
        });
    }

    /** Four on each lane: 1, 3, 5 and 7 on the lane 0, 2, 4, 6 and 8 on the lane 1; 5 to 8 drove on at the bank 1. */
    private static CableFerry fullDeck() {
        CableFerry x = new CableFerry();
        Scene.obey(x, "a0:1;a0:2;a0:3;a0:4;l0;l1;l0;l1;x;a1:5;a1:6;a1:7;a1:8");
        Scene.obey(x, "l0;l1;l0;l1");
        return x;
    }

    private static void deckOfEachVehicle() {
        CableFerry x = fullDeck();
        for (int place = 0; place < 4; place++) {
            for (int lane = 0; lane < 2; lane++) {
                String at = "deck(" + lane + ", " + place + ", ";
                Check.due(at + "0)", x.deck(lane, place, 0), 2 * place + lane + 1);
                Check.due(at + "1)", x.deck(lane, place, 1), place / 2);
            }
        }
    }

    private static void deckLane0Or1() {
        CableFerry x = new CableFerry();
        Scene.add(x, 1, 6);
        Check.due("deck(0, 0, 0)", x.deck(0, 0, 0), CableFerry.NONE);
        Check.due("deck(1, 0, 0)", x.deck(1, 0, 0), 6);
        Scene.stand(x, 0, 5);
        Check.due("deck(0, 0, 0)", x.deck(0, 0, 0), 5);
        Check.due("deck(1, 0, 0)", x.deck(1, 0, 0), CableFerry.NONE);
    }

    private static void deckPlaceFrom0() {
        CableFerry x = fullDeck();
        Check.due("deck(0, 0, 0)", x.deck(0, 0, 0), 1);
        Check.due("deck(0, 3, 0)", x.deck(0, 3, 0), 7);
        Check.due("deck(1, 0, 0)", x.deck(1, 0, 0), 2);
        Check.due("deck(1, 3, 0)", x.deck(1, 3, 0), 8);
    }

    private static void deckWeightAndBank() {
        CableFerry x = new CableFerry();
        Scene.add(x, 0, 20);
        Check.due("deck(0, 0, 0)", x.deck(0, 0, 0), 20);
        Check.due("deck(0, 0, 1)", x.deck(0, 0, 1), 0);
        Scene.stand(x, 0, 9);
        x.cross();
        Scene.add(x, 0, 1);
        Check.due("deck(0, 0, 1), not the bank of the ferry", x.deck(0, 0, 1), 0);
        Check.due("deck(0, 1, 0)", x.deck(0, 1, 0), 1);
        Check.due("deck(0, 1, 1)", x.deck(0, 1, 1), 1);
        x.cross();
        Check.due("deck(0, 1, 1) behind cross()", x.deck(0, 1, 1), 1);
    }

    private static void deckNotSoMany() {
        CableFerry x = new CableFerry();
        for (int what = 0; what <= 1; what++) {
            Check.due("deck(0, 0, " + what + "), none there", x.deck(0, 0, what), CableFerry.NONE);
        }
        Scene.add(x, 0, 3);
        for (int what = 0; what <= 1; what++) {
            Check.due("deck(0, 1, " + what + "), one there", x.deck(0, 1, what), CableFerry.NONE);
            Check.due("deck(1, 0, " + what + "), none there", x.deck(1, 0, what), CableFerry.NONE);
        }
        CableFerry y = fullDeck();
        for (int what = 0; what <= 1; what++) {
            Check.due("deck(1, 4, " + what + "), 4 there", y.deck(1, 4, what), CableFerry.NONE);
            Check.due("deck(1, MAX, " + what + ")", y.deck(1, MAX, what), CableFerry.NONE);
        }
        y.unload();
        Check.due("deck(1, 0, 0) behind unload()", y.deck(1, 0, 0), CableFerry.NONE);
    }

    private static void deckNoSuchLane() {
        CableFerry x = fullDeck();
        Check.unchanged("no such lane", x, () -> {
            Check.noIndex("deck(-1, 0, 0)", () -> x.deck(-1, 0, 0));
            Check.noIndex("deck(2, 0, 0)", () -> x.deck(2, 0, 0));
            Check.noIndex("deck(MIN, 0, 1)", () -> x.deck(MIN, 0, 1));
            Check.noIndex("deck(MAX, 0, 1)", () -> x.deck(MAX, 0, 1));
            Check.noIndex("deck(2, -1, 0)", () -> x.deck(2, -1, 0));
            Check.noIndex("deck(2, 0, 2)", () -> x.deck(2, 0, 2));
        });
    }

    private static void deckPlaceBelow0OrWhatNot0Or1() {
        CableFerry x = fullDeck();
        Check.unchanged("wrong places", x, () -> {
            Check.badArgument("deck(0, -1, 0)", () -> x.deck(0, -1, 0));
            Check.badArgument("deck(1, -1, 1)", () -> x.deck(1, -1, 1));
            Check.badArgument("deck(0, MIN, 0)", () -> x.deck(0, MIN, 0));
            Check.badArgument("deck(0, 0, -1)", () -> x.deck(0, 0, -1));
            Check.badArgument("deck(0, 0, 2)", () -> x.deck(0, 0, 2));
            Check.badArgument("deck(0, 0, MIN)", () -> x.deck(0, 0, MIN));
            Check.badArgument("deck(0, 0, MAX)", () -> x.deck(0, 0, MAX));
            Check.badArgument("deck(0, 4, 2), where none is", () -> x.deck(0, 4, 2));
            Check.badArgument("deck(0, -1, 2)", () -> x.deck(0, -1, 2));
        });
    }

    private static void countOfANewFerry() {
        CableFerry x = new CableFerry();
        for (int what = 0; what <= 13; what++) {
            Check.due("count(" + what + ")", x.count(what), what == 7 ? 40 : 0);
        }
    }

    private static void countEach() {
        CableFerry x = new CableFerry();
        for (int i = 0; i < 3; i++) {
            x.unload();
        }
        Scene.obey(x, "a0:1;a0:1;a0:1;a0:1;l0;l0;l0;l0;u");
        Scene.obey(x, "d3;a0:9;a0:4;a0:8;l0;l1;l0;u;a0:9;a0:4;l0;l1;x;u");
        Scene.obey(x, "a1:11;a1:2;a1:1;l0;l1;w9;x;u;x;x;x;a1:10;a1:7;l1;l0");
        // The tensions of the crossings: 3, 6, 9, 13, 16, 19, 23, 26, 29, 33 and 15 each, twice, are
        // 654; by the list 9 and the slack 1 they are 814; without a deck, by the slack 2 and twice
        // by the slack 3, they are 84, 40 and 40. That is 3 times 500, and 132.
        int[] due = {17, 1, 2, 11, 9, 3, 132, 37, 5, 14, 4, 7, 13, 6};
        for (int what = 0; what <= 13; what++) {
            Check.due("count(" + what + ")", x.count(what), due[what]);
        }
    }

    private static void countGreatest() {
        CableFerry x = new CableFerry();
        Scene.fill(x, 0);
        Scene.fill(x, 1);
        Scene.pass(x, 10000);
        Check.due("hours", x.count(0), 10000);
        Check.due("hours waited", x.count(12), 200000);
        Check.due("vehicles that arrived", x.count(9), 20);
        Check.due("saved states", x.count(13), 6);
        CableFerry y = new CableFerry();
        y.unload();
        for (int i = 0; i < 4; i++) {
            y.arrive(0, 20);
            y.load(0);
        }
        Check.due("the greatest list", y.count(4), 80);
        for (int i = 0; i < 4; i++) {
            y.arrive(0, 20);
            y.load(1);
        }
        Check.due("the most vehicles", y.count(2), 8);
        Check.due("the greatest weight", y.count(3), 160);
        Check.due("the list then", y.count(4), 0);
    }

    private static void countNot0To13() {
        CableFerry x = Scene.busy();
        Check.unchanged("what is not 0 to 13", x, () -> {
            Check.badArgument("count(-1)", () -> x.count(-1));
            Check.badArgument("count(14)", () -> x.count(14));
            Check.badArgument("count(MIN)", () -> x.count(MIN));
            Check.badArgument("count(MAX)", () -> x.count(MAX));
        });
    }

    private static void currentOfEachHour() {
        CableFerry x = new CableFerry();
        for (int hour = 0; hour < 24; hour++) {
            x.current(hour, 40 - hour);
        }
        x.pass(5);
        for (int hour = 0; hour < 24; hour++) {
            Check.due("currentOf(" + hour + ")", x.currentOf(hour), 40 - hour);
        }
    }

    private static void currentOf0To23() {
        CableFerry x = new CableFerry();
        x.current(0, 3);
        x.current(23, 4);
        Check.due("currentOf(0)", x.currentOf(0), 3);
        Check.due("currentOf(1)", x.currentOf(1), 10);
        Check.due("currentOf(22)", x.currentOf(22), 10);
        Check.due("currentOf(23)", x.currentOf(23), 4);
    }

    private static void currentOfReturnsItsCurrent() {
        CableFerry x = new CableFerry();
        x.current(6, 0);
        Check.due("currentOf(6), the least", x.currentOf(6), 0);
        x.current(6, 40);
        Check.due("currentOf(6), the greatest", x.currentOf(6), 40);
        x.undo();
        Check.due("currentOf(6), undone", x.currentOf(6), 0);
    }

    private static void currentOfNoSuchHour() {
        CableFerry x = Scene.busy();
        Check.unchanged("no such hour", x, () -> {
            Check.noIndex("currentOf(-1)", () -> x.currentOf(-1));
            Check.noIndex("currentOf(24)", () -> x.currentOf(24));
            Check.noIndex("currentOf(MIN)", () -> x.currentOf(MIN));
            Check.noIndex("currentOf(MAX)", () -> x.currentOf(MAX));
        });
    }

    private static void settingOfEach() {
        CableFerry x = new CableFerry();
        Check.due("setting(0) at first", x.setting(0), 300);
        Check.due("setting(1) at first", x.setting(1), 12);
        Check.due("setting(2) at first", x.setting(2), 10);
    }

    private static void setting0To2() {
        CableFerry x = new CableFerry();
        x.set(0, 71);
        x.set(1, 72);
        x.set(2, 43);
        Check.due("setting(0)", x.setting(0), 71);
        Check.due("setting(1)", x.setting(1), 72);
        Check.due("setting(2)", x.setting(2), 43);
    }

    private static void settingReturnsItsValue() {
        CableFerry x = new CableFerry();
        x.set(0, 999);
        x.set(1, 0);
        x.set(2, 1);
        Check.due("setting(0), the greatest", x.setting(0), 999);
        Check.due("setting(1), the least", x.setting(1), 0);
        Check.due("setting(2), the least", x.setting(2), 1);
        x.undo();
        Check.due("setting(2), undone", x.setting(2), 10);
    }

    private static void settingNoSuchSetting() {
        CableFerry x = Scene.busy();
        Check.unchanged("no such setting", x, () -> {
            Check.noIndex("setting(-1)", () -> x.setting(-1));
            Check.noIndex("setting(3)", () -> x.setting(3));
            Check.noIndex("setting(MIN)", () -> x.setting(MIN));
            Check.noIndex("setting(MAX)", () -> x.setting(MAX));
        });
    }

    private static void dueWhy(CableFerry x, String when, int reason) {
        Check.due("why(), " + when, x.why(), reason);
        if (reason > 0) {
            Check.badState("cross(), " + when, x::cross);
        }
    }

    private static void whyAsCrossTells() {
        CableFerry x = new CableFerry();
        dueWhy(x, "a new ferry", 0);
        x.current(23, 40);
        x.set(0, 79);
        x.pass(22);
        dueWhy(x, "at the hour 22", 0);
        x.pass(1);
        dueWhy(x, "at the hour 23", 3);
        x.pass(1);
        dueWhy(x, "at the hour 24", 0);
        x.pass(23);
        dueWhy(x, "at the hour 47", 3);
    }

    private static void whyReturns1To3Or0() {
        CableFerry x = new CableFerry();
        x.current(0, 40);
        x.set(0, 50);
        Scene.add(x, 0, 13);
        dueWhy(x, "the list 13, and a wire too weak", 1);
        x.set(1, 13);
        dueWhy(x, "a wire too weak", 3);
        x.set(0, 999);
        dueWhy(x, "none", 0);
        CableFerry y = Scene.slackened(44);
        Scene.stand(y, 0, 80);
        y.set(0, 50);
        y.set(1, 79);
        dueWhy(y, "the list 80, the slack 26, and a wire too weak", 1);
        y.set(1, 80);
        dueWhy(y, "the slack 26, and a wire too weak", 2);
        CableFerry z = Scene.slackened(43);
        dueWhy(z, "the slack 25", 0);
        z.set(0, 50);
        Scene.stand(z, 0, 80);
        dueWhy(z, "the slack 25, and a wire too weak", 3);
    }

    private static void weakestFindsEach() {
        CableFerry x = new CableFerry();
        x.set(2, 1);
        x.current(0, 40);
        x.cross();
        // Wears 8 to 80 and back, and no current from now on: the most worn one is the weakest.
        for (int hour = 0; hour < 24; hour++) {
            x.current(hour, 0);
        }
        Check.due("weakest()", x.weakest(), 9);
        for (int due = 8; due >= 0; due--) {
            x.draw(1);
            Check.due("weakest() behind draw(1)", x.weakest(), due);
        }
        x.draw(1);
        Check.due("weakest(), the first, which was the second of both", x.weakest(), 0);
        for (int i = 0; i < 2; i++) {
            x.draw(5);
        }
        Check.due("weakest() of a new wire", x.weakest(), 0);
        x.current(x.count(0) % 24, 10);
        Check.due("weakest() with a current", x.weakest(), 9);
    }

    private static void weakestOfSeveralTheLowest() {
        CableFerry x = new CableFerry();
        Check.due("weakest(), 9 and 10 alike", x.weakest(), 9);
        x.current(0, 0);
        Check.due("weakest(), all alike", x.weakest(), 0);
        CableFerry y = Scene.calm();
        y.set(2, 50);
        Scene.crossWithLists(y, 16);
        y.unload();
        y.current(1, 1);
        // The slack is 1: a tension of 1 * 20 / 10 less 4 is told as 0.
        Check.due("slack", y.count(5), 1);
        Check.due("weakest() by tensions that are at least 0", y.weakest(), 0);
        y.current(1, 4);
        Check.due("weakest() by a tension of 4 in sections 7 to 12", y.weakest(), 9);
        CableFerry z = Scene.wornOut();
        z.draw(5);
        z.draw(5);
        z.unload();
        z.set(0, 50);
        z.current(z.count(0) % 24, 40);
        // Sections 0 to 7 and 8: 1000 and a strength of 0, 9 no better with 240; from 10 on 50.
        Check.due("wear of 8", z.section(8, 0), 1000);
        Check.due("wear of 9", z.section(9, 0), 240);
        Check.due("wear of 10", z.section(10, 0), 0);
        Check.due("weakest() by strengths that are at least 0", z.weakest(), 9);
    }
}
