/** "Promise 1" to "Promise 5": a new object, the currents, the vehicles. */
final class RiverSentences {
    private static final int MIN = Integer.MIN_VALUE;
    private static final int MAX = Integer.MAX_VALUE;

    private RiverSentences() {
    }

    static void all() {
        Sentences.section("Promise 1: A new object");
        Sentences.holds("Creates an empty ferry at the bank 0, at the hour 0, with an empty buffer and no snapshot.",
            RiverSentences::newObject);
        current();
        arrive();
        load();
        unload();
    }

    private static void current() {
        Sentences.section("Promise 2: current");
        Sentences.holds("Changes the current of an hour of the day.", RiverSentences::currentChangesOneHour);
        Sentences.holds("Undoable.", RiverSentences::currentIsUndoable);
        Sentences.holds("- `hour`: 0 to 23", RiverSentences::currentOfHours0To23);
        Sentences.holds("- `current`: 0 to 40", RiverSentences::current0To40);
        Sentences.holds("Returns the previous current.", RiverSentences::currentReturnsThePrevious);
        Sentences.holds("Throws `IndexOutOfBoundsException` if there is no such hour of the day",
            RiverSentences::currentOfNoSuchHour);
        Sentences.holds("Throws `IllegalArgumentException` if current is out of range",
            RiverSentences::currentOutOfRange);
    }

    private static void arrive() {
        Sentences.section("Promise 3: arrive");
        Sentences.holds("Lets a vehicle arrive at a bank; it waits behind the others.",
            RiverSentences::arriveBehindTheOthers);
        Sentences.holds("Undoable.", RiverSentences::arriveIsUndoable);
        Sentences.holds("- `bank`: 0 or 1", RiverSentences::arriveAtBank0Or1);
        Sentences.holds("- `weight`: 1 to 20", RiverSentences::arriveWithWeight1To20);
        Sentences.holds("Returns how many wait there then.", RiverSentences::arriveReturnsHowManyWait);
        Sentences.holds("Throws `IndexOutOfBoundsException` if there is no such bank",
            RiverSentences::arriveAtNoSuchBank);
        Sentences.holds("Throws `IllegalArgumentException` if weight is out of range",
            RiverSentences::arriveWithWeightOutOfRange);
        Sentences.holds("Throws `IllegalStateException` if 10 wait there", RiverSentences::arriveWhere10Wait);
    }

    private static void load() {
        Sentences.section("Promise 4: load");
        Sentences.holds("Lets the first vehicle that waits at the bank of the ferry drive onto a lane, behind those on"
            + " it.", RiverSentences::loadTheFirstBehindThoseOnIt);
        Sentences.holds("Undoable.", RiverSentences::loadIsUndoable);
        Sentences.holds("- `lane`: 0 or 1", RiverSentences::loadLane0Or1);
        Sentences.holds("Returns its weight.", RiverSentences::loadReturnsItsWeight);
        Sentences.holds("Throws `IndexOutOfBoundsException` if there is no such lane",
            RiverSentences::loadNoSuchLane);
        Sentences.holds("Throws `IllegalStateException` if none waits there, or the lane has 4",
            RiverSentences::loadNoneWaitsOrTheLaneHas4);
    }

    private static void unload() {
        Sentences.section("Promise 5: unload");
        Sentences.holds("Lets all vehicles drive off the deck; they are gone then.",
            RiverSentences::unloadAllTheyAreGone);
        Sentences.holds("One that drove on at the other bank is carried, one that drove on at this bank is turned"
            + " back.", RiverSentences::unloadCarriedOrTurnedBack);
        Sentences.holds("Undoable.", RiverSentences::unloadIsUndoable);
        Sentences.holds("Returns how many are carried.", RiverSentences::unloadReturnsHowManyAreCarried);
    }

    private static void newObject() {
        CableFerry x = new CableFerry();
        Check.due("the ferry's bank", x.count(1), 0);
        Check.due("the hour", x.count(0), 0);
        Check.due("vehicles on the deck", x.count(2), 0);
        Check.due("deck(0, 0, 0)", x.deck(0, 0, 0), CableFerry.NONE);
        Check.due("deck(1, 0, 0)", x.deck(1, 0, 0), CableFerry.NONE);
        Check.due("waiting(0, 0)", x.waiting(0, 0), CableFerry.NONE);
        Check.due("waiting(1, 0)", x.waiting(1, 0), CableFerry.NONE);
        for (int what = 8; what <= 13; what++) {
            Check.due("count(" + what + ")", x.count(what), 0);
        }
        Check.due("firstError() of the empty buffer", x.firstError(), 0);
        Check.badArgument("obey() of the empty buffer", x::obey);
        Check.due("clearBuffer()", x.clearBuffer(), 0);
        Check.badState("goBack() without a snapshot", x::goBack);
        Check.badState("undo() of none", x::undo);
        CableFerry other = new CableFerry();
        other.pass(9);
        Check.due("another object's hours", x.count(0), 0);
    }

    private static void currentChangesOneHour() {
        for (int hour = 0; hour < 24; hour++) {
            CableFerry x = new CableFerry();
            x.current(hour, 23);
            for (int h = 0; h < 24; h++) {
                Check.due("currentOf(" + h + ") behind current(" + hour + ", 23)", x.currentOf(h), h == hour ? 23 : 10);
            }
        }
    }

    private static void currentIsUndoable() {
        CableFerry x = Scene.busy();
        Check.undoable("current(0, 40)", x, () -> x.current(0, 40));
        Check.undoable("current(23, 10), as it is", x, () -> x.current(23, 10));
    }

    private static void currentOfHours0To23() {
        CableFerry x = new CableFerry();
        Check.due("current(0, 1)", x.current(0, 1), 10);
        Check.due("current(23, 2)", x.current(23, 2), 10);
        Check.due("currentOf(0)", x.currentOf(0), 1);
        Check.due("currentOf(23)", x.currentOf(23), 2);
    }

    private static void current0To40() {
        CableFerry x = new CableFerry();
        for (int current = 0; current <= 40; current++) {
            x.current(7, current);
            Check.due("currentOf(7)", x.currentOf(7), current);
        }
    }

    private static void currentReturnsThePrevious() {
        CableFerry x = new CableFerry();
        Check.due("current(4, 0)", x.current(4, 0), 10);
        Check.due("current(4, 40)", x.current(4, 40), 0);
        Check.due("current(4, 40) again", x.current(4, 40), 40);
        x.undo();
        x.undo();
        Check.due("current(4, 5) behind undo()", x.current(4, 5), 0);
    }

    private static void currentOfNoSuchHour() {
        CableFerry x = Scene.busy();
        Check.unchanged("no such hour", x, () -> {
            Check.noIndex("current(-1, 10)", () -> x.current(-1, 10));
            Check.noIndex("current(24, 10)", () -> x.current(24, 10));
            Check.noIndex("current(MIN, 10)", () -> x.current(MIN, 10));
            Check.noIndex("current(MAX, 10)", () -> x.current(MAX, 10));
            Check.noIndex("current(24, 41)", () -> x.current(24, 41));
        });
        x.pass(30);
        Check.noIndex("current(30, 10) at the hour 30 and more", () -> x.current(30, 10));
    }

    private static void currentOutOfRange() {
        CableFerry x = Scene.busy();
        Check.unchanged("currents out of range", x, () -> {
            Check.badArgument("current(0, -1)", () -> x.current(0, -1));
            Check.badArgument("current(23, 41)", () -> x.current(23, 41));
            Check.badArgument("current(0, MIN)", () -> x.current(0, MIN));
            Check.badArgument("current(0, MAX)", () -> x.current(0, MAX));
        });
    }

    private static void arriveBehindTheOthers() {
        CableFerry x = new CableFerry();
        for (int i = 0; i < 10; i++) {
            x.arrive(1, 20 - i);
            Check.due("waiting(1, 0)", x.waiting(1, 0), 20);
            Check.due("waiting(1, " + i + ")", x.waiting(1, i), 20 - i);
            Check.due("waiting(1, " + (i + 1) + ")", x.waiting(1, i + 1), CableFerry.NONE);
        }
        Check.due("waiting(0, 0)", x.waiting(0, 0), CableFerry.NONE);
        Check.due("vehicles that arrived", x.count(9), 10);
        Check.due("hours", x.count(0), 0);
    }

    private static void arriveIsUndoable() {
        CableFerry x = new CableFerry();
        Check.undoable("arrive(0, 1), the first", x, () -> x.arrive(0, 1));
        Check.undoable("arrive(1, 20), the first", x, () -> x.arrive(1, 20));
        CableFerry y = new CableFerry();
        Check.due("obey()", Scene.obey(y, "a1:1;a1:2;a1:3;a1:4;a1:5;a1:6;a1:7;a1:8;a1:9"), 9);
        Check.undoable("arrive(1, 20), the tenth", y, () -> y.arrive(1, 20));
    }

    private static void arriveAtBank0Or1() {
        CableFerry x = new CableFerry();
        x.arrive(0, 5);
        x.arrive(1, 6);
        Check.due("waiting(0, 0)", x.waiting(0, 0), 5);
        Check.due("waiting(1, 0)", x.waiting(1, 0), 6);
    }

    private static void arriveWithWeight1To20() {
        CableFerry x = new CableFerry();
        for (int weight = 1; weight <= 20; weight++) {
            x.arrive(weight % 2, weight);
            Check.due("waiting()", x.waiting(weight % 2, (weight - 1) / 2), weight);
        }
    }

    private static void arriveReturnsHowManyWait() {
        CableFerry x = new CableFerry();
        for (int i = 1; i <= 10; i++) {
            Check.due("arrive(0, 3)", x.arrive(0, 3), i);
        }
        Check.due("arrive(1, 3)", x.arrive(1, 3), 1);
        x.load(0);
        x.load(1);
        Check.due("arrive(0, 3) behind two that drove on", x.arrive(0, 3), 9);
        Check.due("arrive(0, 3)", x.arrive(0, 3), 10);
    }

    private static void arriveAtNoSuchBank() {
        CableFerry x = Scene.busy();
        Check.unchanged("no such bank", x, () -> {
            Check.noIndex("arrive(-1, 1)", () -> x.arrive(-1, 1));
            Check.noIndex("arrive(2, 1)", () -> x.arrive(2, 1));
            Check.noIndex("arrive(MIN, 1)", () -> x.arrive(MIN, 1));
            Check.noIndex("arrive(MAX, 1)", () -> x.arrive(MAX, 1));
            Check.noIndex("arrive(2, 0)", () -> x.arrive(2, 0));
        });
    }

    private static void arriveWithWeightOutOfRange() {
        CableFerry x = new CableFerry();
        Scene.fill(x, 1);
        Check.unchanged("weights out of range", x, () -> {
            Check.badArgument("arrive(0, 0)", () -> x.arrive(0, 0));
            Check.badArgument("arrive(0, -1)", () -> x.arrive(0, -1));
            Check.badArgument("arrive(0, 21)", () -> x.arrive(0, 21));
            Check.badArgument("arrive(0, MIN)", () -> x.arrive(0, MIN));
            Check.badArgument("arrive(0, MAX)", () -> x.arrive(0, MAX));
            Check.badArgument("arrive(1, 0), where 10 wait", () -> x.arrive(1, 0));
            Check.badArgument("arrive(1, 21), where 10 wait", () -> x.arrive(1, 21));
        });
    }

    private static void arriveWhere10Wait() {
        CableFerry x = new CableFerry();
        Scene.fill(x, 0);
        Scene.fill(x, 1);
        Check.unchanged("10 wait there", x, () -> {
            Check.badState("arrive(0, 1)", () -> x.arrive(0, 1));
            Check.badState("arrive(1, 20)", () -> x.arrive(1, 20));
        });
        x.load(0);
        Check.badState("arrive(1, 1)", () -> x.arrive(1, 1));
        Check.due("arrive(0, 1) where 9 wait", x.arrive(0, 1), 10);
        Check.badState("arrive(0, 1)", () -> x.arrive(0, 1));
    }

    private static void loadTheFirstBehindThoseOnIt() {
        CableFerry x = new CableFerry();
        Scene.obey(x, "a0:3;a0:4;a0:5;a1:8;a1:9");
        x.load(1);
        x.load(1);
        Check.due("deck(1, 0, 0)", x.deck(1, 0, 0), 3);
        Check.due("deck(1, 1, 0)", x.deck(1, 1, 0), 4);
        Check.due("waiting(0, 0)", x.waiting(0, 0), 5);
        Check.due("waiting(0, 1)", x.waiting(0, 1), CableFerry.NONE);
        Check.due("waiting(1, 1), at the other bank", x.waiting(1, 1), 9);
        x.cross();
        x.load(1);
        x.load(0);
        Check.due("deck(1, 2, 0)", x.deck(1, 2, 0), 8);
        Check.due("deck(1, 2, 1)", x.deck(1, 2, 1), 1);
        Check.due("deck(0, 0, 0)", x.deck(0, 0, 0), 9);
        Check.due("waiting(1, 0)", x.waiting(1, 0), CableFerry.NONE);
        Check.due("waiting(0, 0), at the other bank", x.waiting(0, 0), 5);
    }

    private static void loadIsUndoable() {
        CableFerry x = new CableFerry();
        Scene.obey(x, "a0:3;a0:4;a0:5;a0:6;a0:7;a1:8;l1;l1;l1");
        Check.undoable("load(1), the fourth", x, () -> x.load(1));
        Check.undoable("load(0), the last that waits", x, () -> x.load(0));
        x.undo();
        Check.due("the place on the lane is free again", x.deck(0, 0, 0), CableFerry.NONE);
        Check.due("it waits again", x.waiting(0, 0), 7);
    }

    private static void loadLane0Or1() {
        CableFerry x = new CableFerry();
        Scene.obey(x, "a0:3;a0:4");
        Check.due("load(0)", x.load(0), 3);
        Check.due("load(1)", x.load(1), 4);
        Check.due("deck(0, 0, 0)", x.deck(0, 0, 0), 3);
        Check.due("deck(1, 0, 0)", x.deck(1, 0, 0), 4);
    }

    private static void loadReturnsItsWeight() {
        CableFerry x = new CableFerry();
        Scene.obey(x, "a0:1;a0:20;a0:7");
        Check.due("load(0)", x.load(0), 1);
        Check.due("load(0)", x.load(0), 20);
        Check.due("load(1)", x.load(1), 7);
    }

    private static void loadNoSuchLane() {
        CableFerry x = Scene.busy();
        Check.unchanged("no such lane", x, () -> {
            Check.noIndex("load(-1)", () -> x.load(-1));
            Check.noIndex("load(2)", () -> x.load(2));
            Check.noIndex("load(MIN)", () -> x.load(MIN));
            Check.noIndex("load(MAX)", () -> x.load(MAX));
        });
        Check.noIndex("load(2) where none waits", () -> new CableFerry().load(2));
    }

    private static void loadNoneWaitsOrTheLaneHas4() {
        CableFerry x = new CableFerry();
        Scene.fill(x, 1);
        Check.unchanged("none waits there", x, () -> {
            Check.badState("load(0), none waits at the bank 0", () -> x.load(0));
            Check.badState("load(1), none waits at the bank 0", () -> x.load(1));
        });
        x.cross();
        for (int i = 0; i < 4; i++) {
            Check.due("load(0)", x.load(0), i + 1);
        }
        Check.unchanged("the lane has 4", x, () -> Check.badState("load(0)", () -> x.load(0)));
        for (int i = 4; i < 8; i++) {
            Check.due("load(1)", x.load(1), i + 1);
        }
        Check.badState("load(1), both lanes have 4", () -> x.load(1));
        x.unload();
        Check.due("load(1) of the last but one", x.load(1), 9);
        Check.due("load(1) of the last", x.load(1), 10);
        Check.badState("load(1), none waits any more", () -> x.load(1));
    }

    private static CableFerry fullDeck() {
        CableFerry x = new CableFerry();
        Scene.fill(x, 0);
        for (int i = 0; i < 8; i++) {
            x.load(i % 2);
        }
        return Scene.withOneSaved(x);
    }

    private static void unloadAllTheyAreGone() {
        CableFerry x = fullDeck();
        x.unload();
        Check.due("vehicles on the deck", x.count(2), 0);
        Check.due("weights on the deck", x.count(3), 0);
        Check.due("the list", x.count(4), 0);
        Check.due("deck(0, 0, 0)", x.deck(0, 0, 0), CableFerry.NONE);
        Check.due("deck(1, 3, 1)", x.deck(1, 3, 1), CableFerry.NONE);
        Check.due("waiting(0, 0)", x.waiting(0, 0), 9);
        Check.due("waiting(0, 2), they do not wait again", x.waiting(0, 2), CableFerry.NONE);
        Check.due("unload() of an empty deck", x.unload(), 0);
        Check.due("turned back", x.count(11), 8);
        Check.due("carried", x.count(10), 0);
    }

    private static void unloadCarriedOrTurnedBack() {
        CableFerry x = fullDeck();
        x.cross();
        x.unload();
        Check.due("carried, all 8", x.count(10), 8);
        Check.due("turned back", x.count(11), 0);
        Scene.add(x, 0, 5);
        x.cross();
        x.cross();
        x.unload();
        Check.due("carried", x.count(10), 8);
        Check.due("turned back, there and back again", x.count(11), 1);
        Scene.add(x, 0, 4);
        x.cross();
        Scene.add(x, 1, 3);
        x.unload();
        Check.due("one of both is carried", x.count(10), 9);
        Check.due("one of both is turned back", x.count(11), 2);
    }

    private static void unloadIsUndoable() {
        CableFerry x = fullDeck();
        Check.undoable("unload() of a full deck", x, x::unload);
        Check.undoable("unload() of an empty deck", x, x::unload);
        CableFerry y = fullDeck();
        y.cross();
        Check.undoable("unload() at the other bank", y, y::unload);
        y.undo();
        Check.due("none is carried, undone", y.count(10), 0);
        Check.due("deck(1, 3, 0)", y.deck(1, 3, 0), 8);
    }

    private static void unloadReturnsHowManyAreCarried() {
        CableFerry x = fullDeck();
        x.keep();
        Check.due("unload() where all drove on", x.unload(), 0);
        x.goBack();
        x.cross();
        Check.due("unload() at the other bank", x.unload(), 8);
        Check.due("unload() of an empty deck", x.unload(), 0);
        Scene.obey(x, "a1:3;a1:3;a1:3;l0;l1;l0;x");
        Check.due("unload() of three", x.unload(), 3);
        Scene.obey(x, "l1;x;a1:3;l0");
        Check.due("unload() of one carried and one turned back", x.unload(), 1);
    }
}
