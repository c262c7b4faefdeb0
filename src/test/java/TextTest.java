/** Promises 10 to 16: the buffer, orders, the snapshot, undo. */
public final class TextTest {
    private static final int MIN = Integer.MIN_VALUE;
    private static final int MAX = Integer.MAX_VALUE;

    public static void main(String[] args) {
        append();
        clearBuffer();
        firstError();
        obeyIncomplete();
        obeyEach();
        obeyUpToTheFirstThatThrows();
        keepAndGoBack();
        undo();
        Check.end();
    }

    private static void append() {
        CableFerry x = new CableFerry();
        Check.due("append(33)", x.append(33), 1);
        Check.due("append(126)", x.append(126), 2);
        Check.due("append() is not undoable", x.count(13), 0);
        Check.unchanged("wrong codes", x, () -> {
            Check.badArgument("append(32)", () -> x.append(32));
            Check.badArgument("append(127)", () -> x.append(127));
            Check.badArgument("append(-1)", () -> x.append(-1));
            Check.badArgument("append(MIN)", () -> x.append(MIN));
            Check.badArgument("append(MAX)", () -> x.append(MAX));
        });
        for (int length = 3; length <= 60; length++) {
            Check.due("append(120)", x.append(120), length);
        }
        Check.unchanged("append() to a full buffer", x, () -> {
            Check.badState("append(120)", () -> x.append(120));
            Check.badArgument("append(32)", () -> x.append(32));
        });
    }

    private static void clearBuffer() {
        CableFerry x = Check.typed("a1:20;?");
        Check.due("clearBuffer()", x.clearBuffer(), 7);
        Check.due("clearBuffer() again", x.clearBuffer(), 0);
        Check.due("clearBuffer() is not undoable", x.count(13), 0);
        Check.due("digest() as new", x.digest(), new CableFerry().digest());
        Check.type(x, "x");
        Check.due("firstError() behind it", x.firstError(), 1);
        Check.due("obey() behind it", x.obey(), 1);
    }

    private static void error(String text, int index) {
        CableFerry x = Check.typed(text);
        long before = x.digest();
        Check.due("firstError() of " + text, x.firstError(), index);
        Check.due("digest() behind it", x.digest(), before);
    }

    private static void firstError() {
        error("", 0);
        String[] begins = {"a", "a0", "a1", "a0:", "a1:1", "a0:2", "l", "w", "d", "x;", "u;x;"};
        for (String text : begins) {
            error(text, text.length());
        }
        String[] whole = {"a0:1", "a0:9", "a1:10", "a1:19", "a0:20", "l0", "l1", "u", "x", "w1", "w9", "w10",
            "w19", "w20", "w24", "d1", "d5", "u;u", "a0:2;w2;d2", "w1;x"};
        for (String text : whole) {
            error(text, text.length());
            error(text + ";", text.length() + 1);
            error(text + "x", text.length());
            error(text + ";;", text.length() + 1);
            error(text + ":", text.length());
        }
        error(";", 0);
        error("1", 0);
        error("A", 0);
        error("b;x", 0);
        error("a2", 1);
        error("a:", 1);
        error("a01", 2);
        error("a0;", 2);
        error("a0:0", 3);
        error("a0:01", 3);
        error("a0:;", 3);
        error("a0:21", 4);
        error("a0:30", 4);
        error("a0:100", 5);
        error("a0:200", 5);
        error("l2", 1);
        error("l;", 1);
        error("l00", 2);
        error("w0", 1);
        error("w25", 2);
        error("w30", 2);
        error("w100", 3);
        error("w240", 3);
        error("w;", 1);
        error("w:", 1);
        error("a0::", 3);
        error("w/", 1);
        error("d0", 1);
        error("d6", 1);
        error("d10", 2);
        error("u0", 1);
        error("x1;?", 1);
        error("x;?;x;?", 2);
        // The 60th character may be the first one of a longer text.
        error("u;u;u;u;u;u;u;u;u;u;u;u;u;u;u;u;u;u;u;u;u;u;u;u;u;u;u;u;u;u;", 60);
        error("u;u;u;u;u;u;u;u;u;u;u;u;u;u;u;u;u;u;u;u;u;u;u;u;u;u;u;u;w24a", 59);
        error("u;u;u;u;u;u;u;u;u;u;u;u;u;u;u;u;u;u;u;u;u;u;u;u;u;u;u;u;w1;a", 60);
    }

    private static void obeyIncomplete() {
        String[] texts = {"", "a", "a0", "a0:", "l", "w", "d", "x;", "w1;", "x;?", "?", "a0:21", "u;l2", "x;;x"};
        for (String text : texts) {
            CableFerry x = Check.typed(text);
            Check.unchanged("obey() of " + text, x, () -> Check.badArgument("obey() of " + text, x::obey));
            Check.due("the buffer stays", x.clearBuffer(), text.length());
        }
    }

    private static CableFerry obeyed(CableFerry x, String text, int done) {
        Check.type(x, text);
        int saved = x.count(13);
        Check.due("obey() of " + text, x.obey(), done);
        Check.due("obey() is undoable as one call", x.count(13), Math.min(6, saved + 1));
        Check.due("obey() clears the buffer", x.clearBuffer(), 0);
        return x;
    }

    private static void obeyEach() {
        CableFerry x = obeyed(new CableFerry(), "a0:20;a0:9;a1:1", 3);
        Check.due("waiting(0, 0)", x.waiting(0, 0), 20);
        Check.due("waiting(0, 1)", x.waiting(0, 1), 9);
        Check.due("waiting(1, 0)", x.waiting(1, 0), 1);
        obeyed(x, "l1", 1);
        obeyed(x, "l0", 1);
        Check.due("deck(1, 0, 0)", x.deck(1, 0, 0), 20);
        Check.due("deck(0, 0, 0)", x.deck(0, 0, 0), 9);
        obeyed(x, "w24", 1);
        Check.due("hours", x.count(0), 24);
        obeyed(x, "w3;w10", 2);
        Check.due("hours", x.count(0), 37);
        obeyed(x, "x", 1);
        Check.due("bank", x.count(1), 1);
        obeyed(x, "u", 1);
        Check.due("carried", x.count(10), 2);
        obeyed(x, "d4", 1);
        Check.due("drum", x.count(7), 36);
        Check.due("hours", x.count(0), 42);
        Check.due("hours waited", x.count(12), 42);
        CableFerry y = new CableFerry();
        y.arrive(0, 20);
        y.arrive(0, 9);
        y.arrive(1, 1);
        y.load(1);
        y.load(0);
        y.pass(24);
        y.pass(13);
        y.cross();
        y.unload();
        y.draw(4);
        Check.due("as the methods do", x.digest(), y.digest());
    }

    private static void obeyUpToTheFirstThatThrows() {
        CableFerry x = obeyed(new CableFerry(), "l0;w1", 0);
        Check.due("hours", x.count(0), 0);
        x.undo();
        Check.due("as new", x.digest(), new CableFerry().digest());
        obeyed(x, "w1;l0;w1", 1);
        Check.due("hours", x.count(0), 1);
        for (int i = 0; i < 9; i++) {
            x.arrive(1, 5);
        }
        obeyed(x, "a1:6;a1:7;a0:1", 1);
        Check.due("arrived", x.count(9), 10);
        obeyed(x, "a0:20;l0;x;w2", 2);
        Check.due("crossings", x.count(8), 0);
        obeyed(x, "u;a0:1;a0:1;a0:1;a0:1;a0:1;l1;l1;l1;l1;l1;u", 10);
        Check.due("on the deck", x.count(2), 4);
        obeyed(x, "u;d5;d5;d5;d5;d5;d5;d5;d4;d2;w1", 9);
        Check.due("drum", x.count(7), 1);
        x.undo();
        Check.due("obey() is undone as one call", x.count(2), 4);
        Check.due("drum", x.count(7), 40);
    }

    private static void keepAndGoBack() {
        CableFerry x = new CableFerry();
        Check.type(x, "x;");
        Check.unchanged("goBack() without a snapshot", x, () -> Check.badState("goBack()", x::goBack));
        x.pass(7);
        x.arrive(0, 3);
        Check.due("keep()", x.keep(), 7);
        Check.due("keep() is not undoable", x.count(13), 2);
        Check.undoable("goBack() of nothing", x, x::goBack);
        x.set(1, 40);
        x.current(3, 33);
        x.load(0);
        x.cross();
        Check.due("goBack()", x.goBack(), 7);
        Check.due("goBack() again", x.goBack(), 7);
        Check.due("waiting(0, 0)", x.waiting(0, 0), 3);
        Check.due("setting(1)", x.setting(1), 12);
        Check.due("currentOf(3)", x.currentOf(3), 10);
        Check.due("bank", x.count(1), 0);
        Check.due("crossings", x.count(8), 0);
        Check.due("saved states stay", x.count(13), 6);
        Check.due("the buffer stays", x.clearBuffer(), 2);
        x.undo();
        x.undo();
        Check.due("bank behind goBack() undone", x.count(1), 1);
        Check.due("setting(1)", x.setting(1), 40);
        x.pass(3);
        Check.due("keep() in its place", x.keep(), 11);
        x.undo();
        x.undo();
        Check.due("undo() leaves the snapshot", x.goBack(), 11);
        CableFerry y = new CableFerry();
        long before = y.digest();
        y.keep();
        Check.due("keep() changes but the snapshot in digest()", y.digest() == before ? 1 : 0, 0);
        Check.due("keep() of a new one", y.keep(), 0);
        Check.due("goBack()", y.goBack(), 0);
        Check.due("count(13)", y.count(13), 1);
    }

    private static void undo() {
        CableFerry x = new CableFerry();
        Check.unchanged("undo() of nothing", x, () -> Check.badState("undo()", x::undo));
        for (int i = 1; i <= 9; i++) {
            x.pass(1);
            Check.due("count(13)", x.count(13), Math.min(6, i));
        }
        Check.type(x, "w2");
        for (int left = 5; left >= 0; left--) {
            Check.due("undo()", x.undo(), left);
            Check.due("hours", x.count(0), 3 + left);
        }
        Check.badState("undo() behind the oldest", x::undo);
        Check.due("hours", x.count(0), 3);
        Check.due("undo() leaves the buffer", x.obey(), 1);
        Check.due("undo()", x.undo(), 0);
        Check.due("undo() does not bring the buffer back", x.clearBuffer(), 0);
        x.pass(1);
        x.pass(1);
        x.undo();
        x.pass(5);
        Check.due("count(13)", x.count(13), 2);
        x.undo();
        Check.due("hours", x.count(0), 4);
        undoRestoresAll();
        undoRestoresBanks();
    }

    private static void undoRestoresBanks() {
        CableFerry x = obeyed(new CableFerry(), "a0:3;a1:3;l0;x", 4);
        x.unload();
        x.load(0);
        Check.due("deck(0, 0, 1)", x.deck(0, 0, 1), 1);
        x.undo();
        x.undo();
        Check.due("deck(0, 0, 1) undone", x.deck(0, 0, 1), 0);
        Check.due("unload()", x.unload(), 1);
    }

    private static void undoRestoresAll() {
        CableFerry x = new CableFerry();
        Check.type(x, "a0:4;a1:6;a0:7;l0;l1;x;l0;u;w3;x;d1");
        x.obey();
        long before = x.digest();
        Check.type(x, "a0:4;a1:6;a0:7;l0;l1;x;l0;u;w3;x;d1");
        x.obey();
        x.set(0, 999);
        x.set(1, 1);
        x.set(2, 2);
        x.current(5, 5);
        for (int i = 0; i < 5; i++) {
            x.undo();
        }
        Check.due("digest() as before", x.digest(), before);
    }
}
