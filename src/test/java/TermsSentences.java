import java.io.IOException;
import java.nio.file.Files;
import java.nio.file.Path;

/** "What it is", "Terms" up to the list, "Settings", "Undo", "Exceptions" and "Not promised". */
final class TermsSentences {
    private static final int MIN = Integer.MIN_VALUE;
    private static final int MAX = Integer.MAX_VALUE;

    private TermsSentences() {
    }

    static void all() {
        Sentences.section("What it is");
        Sentences.noBoundary("A cable ferry that hangs on a wire across a river: currents by the hour of the day, a"
            + " wire of sections that wear where the ferry pulls at them, slack that grows by pulling and makes the"
            + " ferry slow, wire that is drawn through from a drum, vehicles that wait ashore and stand on two lanes"
            + " of the deck, lists by unequal lanes, reasons why the ferry cannot cross, the best hour to cross, how"
            + " vehicles had best be parted between both lanes, how often the ferry can cross still, orders as texts"
            + " with errors by place, a snapshot and undo.");
        Sentences.holds("An object is used for at most 512 calls after it has been made; what later calls answer is"
            + " free.", TermsSentences::isUsedFor512Calls);
        terms();
        settings();
        undo();
        exceptions();
        Sentences.section("Not promised");
        Sentences.noBoundary("How the state is held inside the object is free, as are the speed of each call, the text"
            + " of toString and the behaviour of equals and hashCode.");
        Sentences.noBoundary("Use of one object from several threads at once is not promised to be safe.");
        Sentences.holds("Nothing is promised beyond the answers and state changes described above, and nothing about"
            + " an object after its 512th call.", TermsSentences::isPromisedUpToThe512thCall);
    }

    private static void terms() {
        Sentences.section("Terms");
        Sentences.holds("All numbers are integers, but for shares; divisions are rounded down.",
            TermsSentences::divisionsAreRoundedDown);
        Sentences.noBoundary("Hours, currents");
        Sentences.holds("Hours are counted from 0.", TermsSentences::hoursAreCountedFrom0);
        Sentences.holds("The hour of the day is the number of hours that have gone, modulo 24.",
            TermsSentences::hourOfTheDayModulo24);
        Sentences.holds("Each of the 24 hours of the day has a current, 0 to 40, at first 10.",
            TermsSentences::each24HoursHaveACurrent);
        Sentences.holds("When an hour passes, the hours become 1 more, and each vehicle that waits at a bank then has"
            + " waited an hour more.", TermsSentences::anHourPasses);
        Sentences.noBoundary("Banks, vehicles");
        Sentences.holds("There are 2 banks, 0 and 1; the ferry is at one of them, at first at the bank 0.",
            TermsSentences::thereAre2Banks);
        Sentences.holds("At each bank at most 10 vehicles wait, one behind the other.",
            TermsSentences::atMost10VehiclesWait);
        Sentences.holds("A vehicle has a weight, 1 to 20.", TermsSentences::weightOfAVehicle1To20);
        Sentences.holds("The deck has 2 lanes, 0 and 1, each with room for 4 vehicles, one behind the other.",
            TermsSentences::twoLanesWithRoomFor4);
        Sentences.holds("The list is the difference of the weights on both lanes, without its sign.",
            TermsSentences::listHasNoSign);
    }

    private static void settings() {
        Sentences.section("Settings");
        Sentences.holds("0: the strength of a section without wear, 50 to 999, at first 300; 1: the greatest list with"
            + " which the ferry crosses, 0 to 80, at first 12; 2: how well the wire bears tension, 1 to 50, at first"
            + " 10.", TermsSentences::rangesOfSettings);
    }

    private static void undo() {
        Sentences.section("Undo");
        Sentences.holds("Each method that is marked \"undoable\" and does not throw an exception saves the state from"
            + " before it (also if it changes nothing): all, also what is counted so far, but the buffer, the snapshot"
            + " and the saved states.", TermsSentences::savesTheStateFromBefore);
        Sentences.holds("At most 6 states are saved; the oldest one is dropped first.",
            TermsSentences::atMost6StatesAreSaved);
    }

    private static void exceptions() {
        Sentences.section("Exceptions");
        Sentences.holds("A call that throws an exception changes nothing.",
            TermsSentences::aCallThatThrowsChangesNothing);
        Sentences.holds("If several exceptions apply, the one that is named first in the throws clause is thrown.",
            TermsSentences::theExceptionNamedFirstIsThrown);
        Sentences.holds("The constants: `NONE = -1`: There is nothing to return.",
            () -> Check.due("NONE", CableFerry.NONE, -1));
        Sentences.holds("Ahead of the calls `current`, `arrive`, `load`, `unload` the interface says: ---- the river,"
            + " vehicles.", () -> calls("the river, vehicles", " current arrive load unload"));
        Sentences.holds("Ahead of the calls `cross`, `pass`, `draw`, `set` the interface says: ---- the ferry, the"
            + " wire.", () -> calls("the ferry, the wire", " cross pass draw set"));
        Sentences.holds("Ahead of the calls `append`, `clearBuffer`, `firstError`, `obey`, `keep`, `goBack`, `undo` the"
            + " interface says: ---- texts, the snapshot.",
            () -> calls("texts, the snapshot", " append clearBuffer firstError obey keep goBack undo"));
        Sentences.holds("Ahead of the calls `section`, `waiting`, `deck`, `count`, `currentOf`, `setting`, `why`,"
            + " `weakest` the interface says: ---- looks; nothing is changed.", TermsSentences::looksChangeNothing);
        Sentences.holds("Ahead of the calls `ifLoaded`, `bestHour`, `leastList`, `lasts`, `needed`, `wornShare`,"
            + " `carriedShare`, `digest` the interface says: ---- what would be; nothing is changed.",
            TermsSentences::whatWouldBeChangesNothing);
    }

    private static void isUsedFor512Calls() {
        CableFerry x = new CableFerry();
        for (int call = 1; call <= 20; call++) {
            x.arrive(call % 2, 20);
        }
        for (int call = 21; call <= 511; call++) {
            Check.due("call " + call + ", pass(100)", x.pass(100), (call - 20) * 100);
        }
        Check.due("call 512, count(12)", x.count(12), 20 * 49100);
        CableFerry y = new CableFerry();
        for (int times = 1; times <= 170; times++) {
            y.arrive(0, 1);
            y.load(times % 2);
            y.unload();
        }
        Check.due("call 511, undo()", y.undo(), 5);
        Check.due("call 512, count(11)", y.count(11), 169);
    }

    private static void isPromisedUpToThe512thCall() {
        CableFerry x = new CableFerry();
        for (int call = 1; call <= 511; call++) {
            Check.due("call " + call + ", cross()", x.cross(), 1);
        }
        Check.due("call 512, count(8)", x.count(8), 511);
        CableFerry y = new CableFerry();
        for (int call = 1; call <= 504; call += 63) {
            Check.due("obey()", Scene.obey(y, "w24;w24;w24;w24;w24;w24;w24;w24;w24;w24;w24;w24;w24;w24;w24"), 15);
            for (int undo = 0; undo < 3; undo++) {
                y.keep();
            }
        }
        Check.due("call 505 or so, count(0)", y.count(0), 8 * 15 * 24);
    }

    private static void divisionsAreRoundedDown() {
        CableFerry x = new CableFerry();
        x.current(0, 19);
        Check.due("19 * 1 / 10 is 1, times 20 / 10", x.section(0, 2), 2);
        x.current(0, 9);
        Check.due("9 * 1 / 10 is 0", x.section(0, 2), 0);
        Check.due("9 * 9 / 10 is 8, times 20 / 10", x.section(8, 2), 16);
        Scene.add(x, 0, 5);
        x.current(0, 7);
        Check.due("7 * 2 / 10 is 1, times 25 / 10 is 2, and 15", x.section(1, 2), 17);
        Check.due("7 * 5 / 10 is 3, times 25 / 10 is 7, and 15", x.section(4, 2), 22);
        x.set(2, 9);
        x.cross();
        Check.due("wear: 17 / 9 is 1", x.section(1, 0), 1);
        Check.due("strength: 1 / 2 is 0", x.section(1, 1), 300);
        CableFerry y = Scene.calm();
        Scene.crossWithLists(y, 1);
        Check.due("strength: 3 / 2 is 1", y.section(0, 1), 998);
        CableFerry z = Scene.calm();
        Scene.stand(z, 0, 80);
        Check.due("the slack is 9, 9 / 10 is 0", z.cross(), 1);
        Check.dueBits("shares are not rounded down", y.wornShare(), 60f / 20000f);
    }

    private static void hoursAreCountedFrom0() {
        CableFerry x = new CableFerry();
        Check.due("count(0)", x.count(0), 0);
        x.current(0, 40);
        Check.due("section(9, 2) by the current of the hour 0", x.section(9, 2), 80);
        Check.due("pass(1)", x.pass(1), 1);
        Check.due("section(9, 2) by the current of the hour 1", x.section(9, 2), 20);
    }

    private static void hourOfTheDayModulo24() {
        CableFerry x = new CableFerry();
        for (int hour = 0; hour < 24; hour++) {
            x.current(hour, hour + 1);
        }
        for (int hours = 0; hours <= 100; hours++) {
            Check.due("section(9, 2) at " + hours, x.section(9, 2), 2 * (hours % 24 + 1));
            x.pass(1);
        }
        Scene.pass(x, 4800 - x.count(0));
        Check.due("section(9, 2) at 4800", x.section(9, 2), 2);
        x.pass(23);
        Check.due("section(9, 2) at 4823", x.section(9, 2), 48);
        Check.due("draw(1) at 4823", x.draw(1), 39);
        Check.due("section(9, 2) at 4824", x.section(9, 2), 2);
        x.pass(22);
        x.draw(3);
        Check.due("section(9, 2) at 4849", x.section(9, 2), 4);
        CableFerry y = new CableFerry();
        y.pass(23);
        y.current(0, 17);
        y.cross();
        Check.due("section(9, 2) behind cross() at 23", y.section(9, 2), 34);
    }

    private static void each24HoursHaveACurrent() {
        CableFerry x = new CableFerry();
        for (int hour = 0; hour < 24; hour++) {
            int h = hour;
            Check.due("currentOf(" + hour + ") at first", x.currentOf(hour), 10);
            Check.due("current(" + hour + ", 0)", x.current(hour, 0), 10);
            Check.due("current(" + hour + ", 40)", x.current(hour, 40), 0);
            Check.badArgument("current(" + hour + ", -1)", () -> x.current(h, -1));
            Check.badArgument("current(" + hour + ", 41)", () -> x.current(h, 41));
            Check.due("currentOf(" + hour + ")", x.currentOf(hour), 40);
        }
        Check.noIndex("currentOf(24)", () -> x.currentOf(24));
        Check.noIndex("currentOf(-1)", () -> x.currentOf(-1));
    }

    private static void anHourPasses() {
        CableFerry x = new CableFerry();
        x.pass(1);
        Check.due("hours", x.count(0), 1);
        Check.due("none waits", x.count(12), 0);
        Scene.fill(x, 0);
        Scene.fill(x, 1);
        x.pass(1);
        Check.due("hours", x.count(0), 2);
        Check.due("10 wait at each bank, for the later hour alone", x.count(12), 20);
        x.load(0);
        x.pass(1);
        Check.due("one on the deck does not wait, but has waited", x.count(12), 39);
        x.unload();
        x.cross();
        Check.due("hours behind cross()", x.count(0), 4);
        Check.due("19 wait while it crosses", x.count(12), 58);
        x.draw(5);
        Check.due("hours behind draw(5)", x.count(0), 9);
        Check.due("19 wait for 5 hours", x.count(12), 153);
        x.pass(100);
        Check.due("19 wait for 100 hours", x.count(12), 2053);
    }

    private static void thereAre2Banks() {
        CableFerry x = new CableFerry();
        Check.due("the ferry's bank at first", x.count(1), 0);
        Check.due("arrive(0, 1)", x.arrive(0, 1), 1);
        Check.due("arrive(1, 2)", x.arrive(1, 2), 1);
        Check.noIndex("arrive(-1, 1)", () -> x.arrive(-1, 1));
        Check.noIndex("arrive(2, 1)", () -> x.arrive(2, 1));
        Check.noIndex("waiting(-1, 0)", () -> x.waiting(-1, 0));
        Check.noIndex("waiting(2, 0)", () -> x.waiting(2, 0));
        x.cross();
        Check.due("the ferry's bank", x.count(1), 1);
        Check.due("load(0) at the bank 1", x.load(0), 2);
        x.cross();
        Check.due("the ferry's bank, never 2", x.count(1), 0);
        Check.due("load(0) at the bank 0", x.load(0), 1);
    }

    private static void atMost10VehiclesWait() {
        for (int bank = 0; bank < 2; bank++) {
            int b = bank;
            CableFerry x = new CableFerry();
            if (bank == 1) {
                x.cross();
            }
            Scene.fill(x, bank);
            Check.badState("an 11th at the bank " + bank, () -> x.arrive(b, 1));
            Check.due("the other bank", x.arrive(1 - bank, 20), 1);
            for (int place = 0; place < 10; place++) {
                Check.due("waiting(" + bank + ", " + place + ")", x.waiting(bank, place), place + 1);
            }
            Check.due("load(0), the one ahead", x.load(0), 1);
            Check.due("a 10th again", x.arrive(bank, 20), 10);
            Check.due("ahead now", x.waiting(bank, 0), 2);
            Check.due("the last one", x.waiting(bank, 9), 20);
            Check.badState("an 11th at the bank " + bank, () -> x.arrive(b, 1));
        }
    }

    private static void weightOfAVehicle1To20() {
        CableFerry x = new CableFerry();
        for (int weight = 1; weight <= 20; weight++) {
            x.arrive(0, weight);
            Check.due("waiting(0, 0)", x.waiting(0, 0), weight);
            Check.due("load(0)", x.load(0), weight);
            Check.due("deck(0, 0, 0)", x.deck(0, 0, 0), weight);
            Check.due("weights on the deck", x.count(3), weight);
            x.unload();
        }
        Check.badArgument("arrive(0, 0)", () -> x.arrive(0, 0));
        Check.badArgument("arrive(0, 21)", () -> x.arrive(0, 21));
        Check.due("vehicles that arrived", x.count(9), 20);
    }

    private static void twoLanesWithRoomFor4() {
        CableFerry x = new CableFerry();
        Scene.fill(x, 0);
        for (int place = 0; place < 4; place++) {
            Check.due("load(1)", x.load(1), place + 1);
        }
        Check.badState("a fifth on the lane 1", () -> x.load(1));
        for (int place = 0; place < 4; place++) {
            Check.due("load(0)", x.load(0), place + 5);
        }
        Check.badState("a fifth on the lane 0", () -> x.load(0));
        for (int place = 0; place < 4; place++) {
            Check.due("deck(1, " + place + ", 0)", x.deck(1, place, 0), place + 1);
            Check.due("deck(0, " + place + ", 0)", x.deck(0, place, 0), place + 5);
        }
        Check.due("vehicles on the deck", x.count(2), 8);
        Check.noIndex("load(-1)", () -> x.load(-1));
        Check.noIndex("load(2)", () -> x.load(2));
    }

    private static void listHasNoSign() {
        CableFerry x = new CableFerry();
        Check.due("the list of an empty deck", x.count(4), 0);
        Scene.add(x, 1, 7);
        Check.due("the lane 1 heavier", x.count(4), 7);
        Scene.add(x, 0, 7);
        Check.due("both alike", x.count(4), 0);
        Scene.add(x, 0, 3);
        Check.due("the lane 0 heavier", x.count(4), 3);
        Scene.stand(x, 1, 80);
        Check.due("the greatest on the lane 1", x.count(4), 80);
        Check.due("3 times the list in the tension", x.section(0, 2), 10 + 240);
        Scene.stand(x, 0, 80);
        Check.due("the greatest on the lane 0", x.count(4), 80);
        Check.due("3 times the list in the tension", x.section(0, 2), 10 + 240);
    }

    private static void rangesOfSettings() {
        CableFerry x = new CableFerry();
        int[][] ranges = {{300, 50, 999}, {12, 0, 80}, {10, 1, 50}};
        for (int i = 0; i < 3; i++) {
            int setting = i;
            int least = ranges[i][1];
            int greatest = ranges[i][2];
            Check.due("setting(" + i + ") at first", x.setting(i), ranges[i][0]);
            Check.badArgument("set(" + i + "), too small", () -> x.set(setting, least - 1));
            Check.badArgument("set(" + i + "), too great", () -> x.set(setting, greatest + 1));
            Check.due("set(" + i + ", " + least + ")", x.set(i, least), ranges[i][0]);
            Check.due("setting(" + i + ")", x.setting(i), least);
            Check.due("set(" + i + ", " + greatest + ")", x.set(i, greatest), least);
            Check.due("setting(" + i + ")", x.setting(i), greatest);
        }
        CableFerry y = Scene.calm();
        y.set(2, 50);
        Scene.stand(y, 0, 80);
        Check.due("why() at the greatest list of all", y.why(), 0);
        y.set(1, 0);
        Check.due("why() above the list 0", y.why(), 1);
        y.unload();
        Check.due("why() at the list 0", y.why(), 0);
        CableFerry z = new CableFerry();
        z.set(2, 1);
        z.cross();
        Check.due("the whole tension wears", z.section(9, 0), 20);
    }

    private static void savesTheStateFromBefore() {
        CableFerry x = new CableFerry();
        x.current(3, 10);
        Check.due("current() that changes nothing", x.count(13), 1);
        x.set(1, 12);
        Check.due("set() that changes nothing", x.count(13), 2);
        x.unload();
        Check.due("unload() that changes nothing", x.count(13), 3);
        Scene.obey(x, "l0");
        Check.due("obey() that changes nothing", x.count(13), 4);
        x.keep();
        x.goBack();
        Check.due("goBack() that changes nothing", x.count(13), 5);
        Check.badState("load() that throws", () -> x.load(0));
        Check.badArgument("pass() that throws", () -> x.pass(0));
        x.append('x');
        x.firstError();
        x.clearBuffer();
        x.keep();
        Check.due("what is not marked saves none", x.count(13), 5);
        x.undo();
        Check.due("undo() is not undoable", x.count(13), 4);
        undoRestoresAllButBufferAndSnapshot();
    }

    private static void undoRestoresAllButBufferAndSnapshot() {
        CableFerry x = Scene.busy();
        long before = x.digest();
        Scene.obey(x, "u;a0:7;a1:8;l0;l1;w9;d5;a1:6;a0:5;x;u;x");
        x.current(5, 6);
        x.set(0, 77);
        x.set(2, 9);
        x.undo();
        x.undo();
        x.undo();
        x.undo();
        Check.due("digest() undone", x.digest(), before);
        x.pass(5);
        x.pass(6);
        int hours = x.keep();
        Check.type(x, "x;u");
        x.undo();
        Check.due("the hours undone", x.count(0), hours - 6);
        Check.due("the buffer stays", x.firstError(), 3);
        Check.due("the snapshot stays", x.goBack(), hours);
        Check.due("the buffer stays", x.clearBuffer(), 3);
    }

    private static void atMost6StatesAreSaved() {
        CableFerry x = new CableFerry();
        for (int hours = 1; hours <= 6; hours++) {
            x.pass(1);
            Check.due("count(13) behind " + hours, x.count(13), hours);
        }
        x.pass(1);
        Check.due("count(13) behind a seventh", x.count(13), 6);
        for (int left = 5; left >= 0; left--) {
            Check.due("undo()", x.undo(), left);
            Check.due("hours", x.count(0), left + 1);
        }
        Check.badState("undo(), the oldest one is dropped", x::undo);
        for (int hours = 2; hours <= 20; hours++) {
            x.pass(1);
        }
        Check.due("count(13) behind many", x.count(13), 6);
        for (int left = 5; left >= 0; left--) {
            x.undo();
        }
        Check.due("the hours of the oldest of six", x.count(0), 14);
        Check.badState("undo() behind six", x::undo);
    }

    private static void aCallThatThrowsChangesNothing() {
        CableFerry x = Scene.busy();
        int hours = x.count(0);
        x.undo();
        Check.type(x, "x;?");
        Check.unchanged("calls that throw", x, () -> everyCallThatThrows(x));
        Check.due("firstError() behind them", x.firstError(), 2);
        Check.due("goBack() behind them", x.goBack(), hours);
        Check.due("undo() behind them", x.undo(), 0);
        Check.due("clearBuffer() behind them", x.clearBuffer(), 3);
        theBufferStaysFull();
    }

    private static void everyCallThatThrows(CableFerry x) {
        Check.noIndex("current(24, 1)", () -> x.current(24, 1));
        Check.badArgument("current(1, 41)", () -> x.current(1, 41));
        Check.noIndex("arrive(2, 1)", () -> x.arrive(2, 1));
        Check.badArgument("arrive(0, 21)", () -> x.arrive(0, 21));
        Check.noIndex("load(2)", () -> x.load(2));
        Check.badArgument("pass(101)", () -> x.pass(101));
        Check.badArgument("draw(6)", () -> x.draw(6));
        Check.noIndex("set(3, 50)", () -> x.set(3, 50));
        Check.badArgument("set(0, 49)", () -> x.set(0, 49));
        Check.badArgument("append(32)", () -> x.append(32));
        Check.badArgument("obey()", x::obey);
        Check.badState("undo()", x::undo);
        Check.noIndex("section(20, 0)", () -> x.section(20, 0));
        Check.badArgument("section(0, 3)", () -> x.section(0, 3));
        Check.noIndex("waiting(2, 0)", () -> x.waiting(2, 0));
        Check.badArgument("waiting(0, -1)", () -> x.waiting(0, -1));
        Check.noIndex("deck(2, 0, 0)", () -> x.deck(2, 0, 0));
        Check.badArgument("deck(0, 0, 2)", () -> x.deck(0, 0, 2));
        Check.badArgument("count(14)", () -> x.count(14));
        Check.noIndex("currentOf(24)", () -> x.currentOf(24));
        Check.noIndex("setting(3)", () -> x.setting(3));
        Check.noIndex("ifLoaded(2)", () -> x.ifLoaded(2));
        Check.badArgument("leastList(9)", () -> x.leastList(9));
    }

    private static void theBufferStaysFull() {
        CableFerry x = Scene.emptyDrum();
        Scene.fill(x, 0);
        Scene.fill(x, 1);
        for (int i = 0; i < 4; i++) {
            x.load(0);
        }
        x.set(1, 0);
        for (int i = 0; i < 30; i++) {
            Check.type(x, "u;");
        }
        Check.unchanged("calls that throw by the state", x, () -> {
            Check.badState("append('u')", () -> x.append('u'));
            Check.badState("arrive(1, 1)", () -> x.arrive(1, 1));
            Check.badState("load(0)", () -> x.load(0));
            Check.badState("cross()", x::cross);
            Check.badState("draw(1)", () -> x.draw(1));
            Check.badState("goBack()", x::goBack);
            Check.badArgument("obey()", x::obey);
        });
        Check.due("count(13)", x.count(13), 6);
        Check.due("undo() undoes the last that did not throw", x.undo(), 5);
        Check.due("setting(1)", x.setting(1), 12);
        Check.due("clearBuffer()", x.clearBuffer(), 60);
    }

    private static void theExceptionNamedFirstIsThrown() {
        CableFerry x = Scene.emptyDrum();
        Scene.fill(x, 0);
        for (int i = 0; i < 60; i++) {
            x.append('x');
        }
        Check.noIndex("current(24, 41)", () -> x.current(24, 41));
        Check.noIndex("current(-1, -1)", () -> x.current(-1, -1));
        Check.noIndex("arrive(2, 21)", () -> x.arrive(2, 21));
        Check.badArgument("arrive(0, 21) where 10 wait", () -> x.arrive(0, 21));
        Check.noIndex("load(2) where none waits", () -> new CableFerry().load(2));
        Check.badArgument("draw(6) with an empty drum", () -> x.draw(6));
        Check.noIndex("set(3, 1000)", () -> x.set(3, 1000));
        Check.noIndex("set(-1, -1)", () -> x.set(-1, -1));
        Check.badArgument("append(32) to a full buffer", () -> x.append(32));
        Check.noIndex("section(20, 3)", () -> x.section(20, 3));
        Check.noIndex("waiting(2, -1)", () -> x.waiting(2, -1));
        Check.noIndex("deck(2, -1, 2)", () -> x.deck(2, -1, 2));
        Check.noIndex("deck(MIN, MIN, MAX)", () -> x.deck(MIN, MIN, MAX));
    }

    private static void looksChangeNothing() {
        calls("looks; nothing is changed", " section waiting deck count currentOf setting why weakest");
        CableFerry x = Scene.busy();
        Check.type(x, "x;?");
        Check.unchanged("looks", x, () -> {
            for (int i = 0; i < 3; i++) {
                x.section(i, i);
                x.waiting(i % 2, i);
                x.deck(i % 2, i, 1);
                x.count(i);
                x.currentOf(i);
                x.setting(i);
                x.why();
                x.weakest();
            }
        });
        Check.due("undo() behind looks", x.undo(), 0);
    }

    private static void whatWouldBeChangesNothing() {
        calls("what would be; nothing is changed",
            " ifLoaded bestHour leastList lasts needed wornShare carriedShare digest");
        CableFerry x = Scene.busy();
        x.set(0, 50);
        x.current(x.count(0) % 24, 40);
        Check.type(x, "x;?");
        int hours = x.count(0);
        int drum = x.count(7);
        int wear = x.section(9, 0);
        int waited = x.count(12);
        Check.unchanged("what would be", x, () -> {
            for (int i = 0; i < 2; i++) {
                x.ifLoaded(i);
                x.bestHour();
                x.leastList(i + 1);
                x.lasts();
                x.needed();
                x.wornShare();
                x.carriedShare();
            }
        });
        Check.due("count(0)", x.count(0), hours);
        Check.due("count(7)", x.count(7), drum);
        Check.due("section(9, 0)", x.section(9, 0), wear);
        Check.due("count(12)", x.count(12), waited);
        Check.due("undo() behind them", x.undo(), 2);
        Check.due("clearBuffer() behind them", x.clearBuffer(), 3);
    }

    /** The calls of the face that stand behind a line of the source that begins with "// ----". */
    private static void calls(String line, String due) {
        StringBuilder found = new StringBuilder();
        boolean isBehind = false;
        for (String text : source().split("\n")) {
            String code = text.strip();
            if (code.startsWith("// ----")) {
                isBehind = code.equals("// ---- " + line);
            } else if (isBehind && code.startsWith("public ")) {
                found.append(' ').append(code, code.indexOf(' ', 7) + 1, code.indexOf('('));
            }
        }
        Check.dueText("calls behind \"---- " + line + "\"", found.toString(), due);
    }

    private static String source() {
        try {
            return Files.readString(Path.of("src/main/java/CableFerry.java"));
        } catch (IOException e) {
            throw new IllegalStateException(e);
        }
    }
}
