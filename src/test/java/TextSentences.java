import java.util.ArrayList;
import java.util.List;

/** "Input text" and "Promise 10" to "Promise 16": the buffer, orders, the snapshot, undo. */
final class TextSentences {
    private static final int MIN = Integer.MIN_VALUE;
    private static final int MAX = Integer.MAX_VALUE;
    private static final List<String> ORDERS = everyOrder();

    private TextSentences() {
    }

    static void all() {
        inputText();
        append();
        clearBufferAndFirstError();
        obey();
        snapshot();
        undo();
    }

    private static void inputText() {
        Sentences.section("Input text");
        Sentences.holds("The buffer has at most 60 characters.", TextSentences::bufferHasAtMost60);
        Sentences.holds("Orders as a text are one or more parts with \";\" between them, each one of these: \"a\", a"
            + " bank, 0 or 1, \":\", and a weight, 1 to 20 (a vehicle arrives there); \"l\" and a lane, 0 or 1 (a"
            + " vehicle drives onto it); \"u\" (all vehicles drive off); \"x\" (the ferry crosses); \"w\" and hours, 1"
            + " to 24 (they pass); \"d\" and sections, 1 to 5 (so many are drawn through).",
            TextSentences::ordersAreOneOrMoreParts);
        Sentences.holds("Numbers are without leading zeros.", TextSentences::noLeadingZeros);
        Sentences.holds("The buffer is read from left to right; a character is a syntax error if no orders as a text,"
            + " of any length, begin with the characters before it and this character.",
            TextSentences::errorIfNoOrdersBeginSo);
    }

    private static void append() {
        Sentences.section("Promise 10: append");
        Sentences.holds("Appends a character to the buffer.", TextSentences::appendAppends);
        Sentences.holds("- `code`: the character code, 33 to 126", TextSentences::append33To126);
        Sentences.holds("Returns the new length of the buffer.", TextSentences::appendReturnsTheNewLength);
        Sentences.holds("Throws `IllegalArgumentException` if code is not 33 to 126", TextSentences::appendNot33To126);
        Sentences.holds("Throws `IllegalStateException` if the buffer has 60 characters", TextSentences::append60);
    }

    private static void clearBufferAndFirstError() {
        Sentences.section("Promise 11: clearBuffer");
        Sentences.holds("Clears the buffer.", TextSentences::clearBufferClears);
        Sentences.holds("Returns the length that it had.", TextSentences::clearBufferReturnsTheLength);
        Sentences.section("Promise 12: firstError");
        Sentences.holds("Finds the first syntax error of the buffer.", TextSentences::firstErrorOfSeveral);
        Sentences.holds("Returns the index of the first character that is a syntax error; the length of the buffer if"
            + " there is none.", TextSentences::firstErrorReturnsIndexOrLength);
    }

    private static void obey() {
        Sentences.section("Promise 13: obey");
        Sentences.holds("Does the orders in the buffer as the methods arrive(), load(), unload(), cross(), pass() and"
            + " draw() do, one after the other, up to the first one that would throw an exception, and clears the"
            + " buffer.", TextSentences::obeyUpToTheFirstThatWouldThrow);
        Sentences.holds("Undoable, as one call, also if none is done.", TextSentences::obeyIsUndoableAsOneCall);
        Sentences.holds("Returns how many are done.", TextSentences::obeyReturnsHowManyAreDone);
        Sentences.holds("Throws `IllegalArgumentException` if the buffer is not complete orders as a text (an empty one"
            + " is not)", TextSentences::obeyNotCompleteOrders);
    }

    private static void snapshot() {
        Sentences.section("Promise 14: keep");
        Sentences.holds("Takes a snapshot of the state (of all that undo() would restore), in place of the one that"
            + " was.", TextSentences::keepInPlaceOfTheOneThatWas);
        Sentences.holds("Returns the hours that have gone.", TextSentences::keepReturnsTheHours);
        Sentences.section("Promise 15: goBack");
        Sentences.holds("Goes back to the snapshot, which stays.", TextSentences::goBackToTheSnapshotWhichStays);
        Sentences.holds("Undoable.", TextSentences::goBackIsUndoable);
        Sentences.holds("Returns the hours that have gone then.", TextSentences::goBackReturnsTheHours);
        Sentences.holds("Throws `IllegalStateException` if there is no snapshot", TextSentences::goBackWithoutSnapshot);
    }

    private static void undo() {
        Sentences.section("Promise 16: undo");
        Sentences.holds("Restores the latest saved state, and drops it.", TextSentences::undoRestoresTheLatest);
        Sentences.holds("Returns how many saved states are left.", TextSentences::undoReturnsHowManyAreLeft);
        Sentences.holds("Throws `IllegalStateException` if there is none", TextSentences::undoOfNone);
    }

    /** Each order that there is, once. */
    private static List<String> everyOrder() {
        List<String> orders = new ArrayList<>(List.of("l0", "l1", "u", "x"));
        for (int bank = 0; bank <= 1; bank++) {
            for (int weight = 1; weight <= 20; weight++) {
                orders.add("a" + bank + ":" + weight);
            }
        }
        for (int hours = 1; hours <= 24; hours++) {
            orders.add("w" + hours);
        }
        for (int sections = 1; sections <= 5; sections++) {
            orders.add("d" + sections);
        }
        return orders;
    }

    private static boolean canFollow(String part, char next) {
        if (next == ';') {
            return ORDERS.contains(part);
        }
        for (String order : ORDERS) {
            if (order.startsWith(part + next)) {
                return true;
            }
        }
        return false;
    }

    private static String times(String text, int times) {
        return text.repeat(times);
    }

    private static void dueError(String text, int index) {
        Check.due("firstError() of " + text, Check.typed(text).firstError(), index);
    }

    private static void dueComplete(String text, boolean isComplete) {
        String answer = Check.answer(Check.typed(text)::obey);
        boolean refused = answer.equals("throws.IllegalArgumentException");
        Check.due("obey() of \"" + text + "\" throws", refused ? 1 : 0, isComplete ? 0 : 1);
    }

    private static void bufferHasAtMost60() {
        CableFerry x = new CableFerry();
        for (int length = 1; length <= 60; length++) {
            Check.due("append('x')", x.append('x'), length);
        }
        Check.badState("a 61st character", () -> x.append('x'));
        Check.due("clearBuffer()", x.clearBuffer(), 60);
        Check.due("append('x') to the empty buffer", x.append('x'), 1);
        CableFerry y = Check.typed("w1" + times(";u", 29));
        Check.badState("a 61st character behind complete orders", () -> y.append('0'));
        Check.due("obey() of 60 characters", y.obey(), 30);
        Check.due("append('x') behind obey()", y.append('x'), 1);
    }

    private static void ordersAreOneOrMoreParts() {
        for (String order : ORDERS) {
            dueComplete(order, true);
            dueComplete(order + ";u", true);
            dueComplete("u;" + order, true);
            dueComplete(order + ";", false);
            dueComplete(";" + order, false);
            dueComplete("u;;" + order, false);
            dueComplete(order + "," + order, false);
        }
        String[] wrong = {"a2:1", "a/:1", "a0:0", "a0:21", "a0:30", "a0:100", "a01", "a0;1", "a:1", "a0:", "a", "l2",
            "l/", "l", "u1", "x1", "w0", "w25", "w30", "w100", "w240", "w", "d0", "d6", "d10", "d", "U", "X", "lx", ""};
        for (String text : wrong) {
            dueComplete(text, false);
        }
        ordersDoWhatTheyTell();
    }

    private static void ordersDoWhatTheyTell() {
        for (int weight = 1; weight <= 20; weight++) {
            CableFerry x = new CableFerry();
            Check.due("obey()", Scene.obey(x, "a0:" + weight + ";a1:" + weight), 2);
            Check.due("a0:" + weight, x.waiting(0, 0), weight);
            Check.due("a1:" + weight, x.waiting(1, 0), weight);
        }
        for (int hours = 1; hours <= 24; hours++) {
            CableFerry x = new CableFerry();
            Check.due("obey()", Scene.obey(x, "w" + hours), 1);
            Check.due("w" + hours, x.count(0), hours);
        }
        for (int sections = 1; sections <= 5; sections++) {
            CableFerry x = new CableFerry();
            Check.due("obey()", Scene.obey(x, "d" + sections), 1);
            Check.due("d" + sections, x.count(7), 40 - sections);
        }
        CableFerry x = new CableFerry();
        Scene.obey(x, "a0:3;a0:4;l1;l0");
        Check.due("l1", x.deck(1, 0, 0), 3);
        Check.due("l0", x.deck(0, 0, 0), 4);
        Scene.obey(x, "x");
        Check.due("x", x.count(1), 1);
        Scene.obey(x, "u");
        Check.due("u", x.count(10), 2);
    }

    private static void noLeadingZeros() {
        dueError("a0:0", 3);
        dueError("a0:05", 3);
        dueError("a00:5", 2);
        dueError("a01:5", 2);
        dueError("l00", 2);
        dueError("l01", 2);
        dueError("w0", 1);
        dueError("w05", 1);
        dueError("d0", 1);
        dueError("d05", 1);
        dueComplete("a0:05", false);
        dueComplete("w05", false);
        dueComplete("w024", false);
        dueComplete("d05", false);
        dueComplete("a0:20", true);
        dueComplete("w10", true);
    }

    /** Behind each beginning of an order, each character that there is: as the first part and as a later one. */
    private static void errorIfNoOrdersBeginSo() {
        List<String> begins = new ArrayList<>(List.of(""));
        for (String order : ORDERS) {
            for (int end = 1; end <= order.length(); end++) {
                if (!begins.contains(order.substring(0, end))) {
                    begins.add(order.substring(0, end));
                }
            }
        }
        for (String begin : begins) {
            for (char next = 33; next <= 126; next++) {
                int index = begin.length() + (canFollow(begin, next) ? 1 : 0);
                dueError(begin + next, index);
                dueError("a1:20;" + begin + next, 6 + index);
                dueError("w2;u;" + begin + next, 5 + index);
            }
        }
        // What could be complete beyond 60 characters alone is no error.
        dueError(times("u;", 30), 60);
        dueError(times("u;", 29) + "xa", 59);
        dueError(times("u;", 29) + "a0", 60);
        dueError("w10;" + times("u;", 28), 60);
        dueError("w10;" + times("u;", 27) + "l2", 59);
        dueError("w10;" + times("u;", 27) + "w;", 59);
    }

    private static void appendAppends() {
        CableFerry x = new CableFerry();
        x.append('w');
        x.append('1');
        x.append('2');
        Check.due("append() changes no state", x.count(13), 0);
        Check.due("firstError()", x.firstError(), 3);
        x.obey();
        Check.due("hours of w12", x.count(0), 12);
    }

    private static void append33To126() {
        CableFerry x = new CableFerry();
        for (int code = 33; code <= 126; code++) {
            Check.due("append(" + code + ")", x.append(code), 1);
            Check.due("digest() with it", x.digest(), Hash.of(x, "" + (char) code, false));
            x.clearBuffer();
        }
    }

    private static void appendReturnsTheNewLength() {
        CableFerry x = new CableFerry();
        Check.due("append('!')", x.append('!'), 1);
        Check.due("append('x')", x.append('x'), 2);
        for (int length = 3; length <= 60; length++) {
            Check.due("append('~')", x.append('~'), length);
        }
    }

    private static void appendNot33To126() {
        CableFerry x = Scene.busy();
        Check.unchanged("codes out of range", x, () -> {
            Check.badArgument("append(32)", () -> x.append(32));
            Check.badArgument("append(127)", () -> x.append(127));
            Check.badArgument("append(0)", () -> x.append(0));
            Check.badArgument("append(-1)", () -> x.append(-1));
            Check.badArgument("append('x' + 65536)", () -> x.append('x' + 65536));
            Check.badArgument("append(MIN)", () -> x.append(MIN));
            Check.badArgument("append(MAX)", () -> x.append(MAX));
        });
        Check.type(x, times("x", 60));
        Check.badArgument("append(32) to a full buffer", () -> x.append(32));
        Check.badArgument("append(127) to a full buffer", () -> x.append(127));
    }

    private static void append60() {
        CableFerry x = Check.typed(times("u;", 29) + "u");
        Check.due("a 60th character", x.append(';'), 60);
        Check.unchanged("a 61st character", x, () -> {
            Check.badState("append(33)", () -> x.append(33));
            Check.badState("append('u')", () -> x.append('u'));
            Check.badState("append(126)", () -> x.append(126));
        });
        Check.due("firstError()", x.firstError(), 60);
    }

    private static void clearBufferClears() {
        CableFerry x = Check.typed("?x");
        x.clearBuffer();
        Check.due("digest() as new", x.digest(), new CableFerry().digest());
        Check.due("firstError()", x.firstError(), 0);
        Check.badArgument("obey()", x::obey);
        Check.type(x, "x");
        Check.due("obey() of what is appended then", x.obey(), 1);
        CableFerry y = Check.typed("w1");
        y.clearBuffer();
        Check.due("the first character is read anew", y.append('0'), 1);
        Check.due("firstError()", y.firstError(), 0);
    }

    private static void clearBufferReturnsTheLength() {
        CableFerry x = new CableFerry();
        Check.due("clearBuffer() of an empty one", x.clearBuffer(), 0);
        Check.type(x, "~");
        Check.due("clearBuffer() of one", x.clearBuffer(), 1);
        Check.type(x, times("?", 60));
        Check.due("clearBuffer() of a full one", x.clearBuffer(), 60);
        Check.due("clearBuffer() again", x.clearBuffer(), 0);
    }

    private static void firstErrorOfSeveral() {
        dueError("??", 0);
        dueError("x?x?", 1);
        dueError("w25;l2", 2);
        dueError("x;u;w2;d9;l9", 8);
        CableFerry x = Check.typed("x?");
        Check.type(x, ";x");
        Check.due("firstError(), right characters behind it", x.firstError(), 1);
        Check.due("firstError() again", x.firstError(), 1);
        Check.due("the buffer stays", x.clearBuffer(), 4);
    }

    private static void firstErrorReturnsIndexOrLength() {
        dueError("", 0);
        dueError("x", 1);
        dueError("x;", 2);
        dueError("a", 1);
        dueError(";", 0);
        dueError("x;u;?", 4);
        dueError(times("x;", 29) + "l1", 60);
        dueError(times("x;", 29) + "l2", 59);
        dueError("?" + times("x;", 29) + "x", 0);
    }

    private static void obeyUpToTheFirstThatWouldThrow() {
        CableFerry x = new CableFerry();
        Scene.fill(x, 1);
        dueDone(x, "a1:3;w9", 0);
        dueDone(x, "w1;a0:2;a1:3;w9", 2);
        Check.due("arrive() at 10 that wait", x.count(9), 11);
        dueDone(x, "w1;l0;l0;w9", 2);
        Check.due("load() where none waits", x.count(2), 1);
        dueDone(x, "u;a0:1;l1;a0:1;l1;a0:1;l1;a0:1;l1;a0:1;l1;w9", 10);
        Check.due("load() of a lane that has 4", x.deck(1, 3, 0), 1);
        dueDone(x, "u;l0;a0:20;l0;x;u", 4);
        Check.due("cross() with a list of 21", x.count(3), 21);
        dueDone(x, "u;d5;d5;d5;d5;d5;d5;d5;d4;d2;d1;w9", 9);
        Check.due("draw() of 2 with 1 on the drum", x.count(7), 1);
        Check.due("hours: none of the w9", x.count(0), 2 + 39);
        dueDone(x, "x;l0;l1;l1;x;u;d1", 7);
        Check.due("all done", x.count(10), 3);
        CableFerry y = new CableFerry();
        y.arrive(0, 12);
        y.load(1);
        y.cross();
        y.unload();
        y.pass(24);
        y.draw(5);
        CableFerry z = new CableFerry();
        dueDone(z, "a0:12;l1", 2);
        z.keep();
        dueDone(z, "x;u;w24;d5", 4);
        Check.due("as the methods do", z.count(0), y.count(0));
        for (int what = 0; what <= 12; what++) {
            Check.due("as the methods do, count(" + what + ")", z.count(what), y.count(what));
        }
    }

    private static void dueDone(CableFerry x, String text, int done) {
        Check.due("obey() of " + text, Scene.obey(x, text), done);
        Check.due("the buffer is cleared", x.clearBuffer(), 0);
    }

    private static void obeyIsUndoableAsOneCall() {
        CableFerry x = Scene.busy();
        long before = x.digest();
        Check.due("obey()", Scene.obey(x, "a0:3;w24;u;w24;d5;d5;x;w1"), 8);
        Check.due("count(13)", x.count(13), 2);
        Check.due("undo()", x.undo(), 1);
        Check.due("digest() undone", x.digest(), before);
        CableFerry y = new CableFerry();
        Check.due("obey() of none", Scene.obey(y, "l0;w1"), 0);
        Check.due("count(13)", y.count(13), 1);
        Check.due("hours", y.count(0), 0);
        Check.due("undo()", y.undo(), 0);
        Check.due("the buffer stays cleared", y.clearBuffer(), 0);
        Check.due("digest() as new", y.digest(), new CableFerry().digest());
        CableFerry z = new CableFerry();
        for (int i = 0; i < 5; i++) {
            z.pass(1);
        }
        Scene.obey(z, "w1;w1;w1;w1;w1;w1;w1");
        Check.due("it drops no other saved state", z.count(13), 6);
        for (int left = 5; left >= 0; left--) {
            z.undo();
            Check.due("hours", z.count(0), left);
        }
    }

    private static void obeyReturnsHowManyAreDone() {
        dueDone(new CableFerry(), "l0", 0);
        dueDone(new CableFerry(), "d5;l1", 1);
        dueDone(new CableFerry(), "x", 1);
        dueDone(new CableFerry(), "u" + times(";u", 29), 30);
        dueDone(new CableFerry(), "w1" + times(";u", 28) + ";x", 30);
        dueDone(new CableFerry(), times("u;", 29) + "l1", 29);
    }

    private static void obeyNotCompleteOrders() {
        String[] texts = {"", "a", "a0", "a0:", "l", "w", "d", "x;", "w1;", "?", "x?", "x;?", "x;;x", ";x", "a0:21",
            "w25", "d6", "u;l2", "w1;w", times("u;", 30), times("x", 60)};
        for (String text : texts) {
            CableFerry x = Scene.busy();
            Check.type(x, text);
            Check.unchanged("obey() of " + text, x, () -> Check.badArgument("obey() of " + text, x::obey));
            Check.due("the buffer stays", x.clearBuffer(), text.length());
        }
        CableFerry x = Check.typed("w");
        Check.badArgument("obey() of w", x::obey);
        x.append('2');
        Check.due("obey() of w2", x.obey(), 1);
        Check.badArgument("obey() again, of an empty one", x::obey);
    }

    private static void keepInPlaceOfTheOneThatWas() {
        CableFerry x = Scene.busy();
        long before = x.digest();
        x.keep();
        Check.due("keep() is not undoable, and changes nothing else", x.digest(), before);
        x.pass(4);
        int hours = x.keep();
        x.pass(6);
        Check.due("goBack() to the later snapshot", x.goBack(), hours);
        x.pass(8);
        Check.due("goBack() to it again", x.goBack(), hours);
        keepTakesAll();
    }

    private static void keepTakesAll() {
        CableFerry x = Scene.busy();
        long before = x.digest();
        x.undo();
        x.set(0, 77);
        x.set(1, 3);
        x.current(5, 6);
        x.current(23, 7);
        Scene.obey(x, "a0:2;a0:1;a1:8;a0:6;a1:7;l0;l1;w9;d5;x;l0;u;l1;x");
        for (int i = 0; i < 5; i++) {
            x.undo();
        }
        x.goBack();
        Check.due("digest() as it was kept", x.digest(), before);
    }

    private static void keepReturnsTheHours() {
        CableFerry x = new CableFerry();
        Check.due("keep() of a new ferry", x.keep(), 0);
        x.pass(100);
        Check.due("keep(), not the hour of the day", x.keep(), 100);
        Check.due("keep() again", x.keep(), 100);
    }

    private static void goBackToTheSnapshotWhichStays() {
        CableFerry x = new CableFerry();
        x.pass(3);
        x.keep();
        for (int i = 0; i < 3; i++) {
            x.pass(7);
            Check.due("goBack()", x.goBack(), 3);
        }
        Check.due("goBack() at once", x.goBack(), 3);
        x.arrive(0, 5);
        x.load(0);
        x.cross();
        x.goBack();
        Check.due("deck(0, 0, 0)", x.deck(0, 0, 0), CableFerry.NONE);
        Check.due("vehicles that arrived", x.count(9), 0);
        Check.due("bank", x.count(1), 0);
        Check.due("crossings", x.count(8), 0);
        x.pass(1);
        x.goBack();
        Check.due("what is done behind goBack() does not change the snapshot", x.count(0), 3);
    }

    private static void goBackIsUndoable() {
        CableFerry x = Scene.busy();
        x.pass(5);
        Check.undoable("goBack()", x, x::goBack);
        Check.undoable("goBack() that changes nothing", x, x::goBack);
        int hours = x.count(0);
        x.undo();
        x.undo();
        Check.due("hours behind undo() of both", x.count(0), hours + 5);
    }

    private static void goBackReturnsTheHours() {
        CableFerry x = new CableFerry();
        x.keep();
        x.pass(9);
        Check.due("goBack() to 0", x.goBack(), 0);
        x.pass(100);
        x.keep();
        x.pass(1);
        Check.due("goBack() to 100", x.goBack(), 100);
    }

    private static void goBackWithoutSnapshot() {
        CableFerry x = new CableFerry();
        x.pass(1);
        Check.unchanged("no snapshot", x, () -> Check.badState("goBack()", x::goBack));
        x.keep();
        Check.due("goBack() with one", x.goBack(), 1);
        x.undo();
        x.undo();
        Check.due("goBack(): undo() leaves the snapshot", x.goBack(), 1);
    }

    private static void undoRestoresTheLatest() {
        CableFerry x = new CableFerry();
        x.pass(1);
        x.pass(2);
        x.pass(4);
        x.undo();
        Check.due("hours", x.count(0), 3);
        x.undo();
        Check.due("hours, it is dropped", x.count(0), 1);
        x.pass(8);
        x.undo();
        Check.due("hours", x.count(0), 1);
        x.undo();
        Check.due("hours", x.count(0), 0);
        CableFerry y = new CableFerry();
        for (int i = 0; i < 9; i++) {
            y.pass(1);
        }
        y.undo();
        y.undo();
        y.pass(10);
        y.pass(20);
        y.pass(30);
        int[] hours = {37, 17, 7, 6, 5, 4};
        for (int due : hours) {
            y.undo();
            Check.due("hours", y.count(0), due);
        }
    }

    private static void undoReturnsHowManyAreLeft() {
        CableFerry x = new CableFerry();
        x.pass(1);
        Check.due("undo() of one", x.undo(), 0);
        for (int i = 0; i < 7; i++) {
            x.pass(1);
        }
        for (int left = 5; left >= 0; left--) {
            Check.due("undo()", x.undo(), left);
            Check.due("count(13)", x.count(13), left);
        }
    }

    private static void undoOfNone() {
        CableFerry x = new CableFerry();
        Check.unchanged("no saved state", x, () -> Check.badState("undo()", x::undo));
        x.pass(1);
        x.undo();
        Check.unchanged("none any more", x, () -> Check.badState("undo()", x::undo));
        for (int i = 0; i < 7; i++) {
            x.pass(1);
        }
        for (int i = 0; i < 6; i++) {
            x.undo();
        }
        Check.unchanged("the seventh", x, () -> Check.badState("undo()", x::undo));
        x.keep();
        Check.badState("undo() with a snapshot", x::undo);
    }
}
