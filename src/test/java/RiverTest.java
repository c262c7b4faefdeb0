/** Promises 1 to 5: a new object, the currents, the vehicles. */
public final class RiverTest {
    private static final int MIN = Integer.MIN_VALUE;
    private static final int MAX = Integer.MAX_VALUE;

    public static void main(String[] args) {
        newObject();
        current();
        arrive();
        load();
        unload();
        Check.end();
    }

    private static void newObject() {
        CableFerry x = new CableFerry();
        for (int what = 0; what <= 13; what++) {
            Check.due("new count(" + what + ")", x.count(what), what == 7 ? 40 : 0);
        }
        for (int hour = 0; hour < 24; hour++) {
            Check.due("new currentOf(" + hour + ")", x.currentOf(hour), 10);
        }
        Check.due("new setting(0)", x.setting(0), 300);
        Check.due("new setting(1)", x.setting(1), 12);
        Check.due("new setting(2)", x.setting(2), 10);
        for (int k = 0; k < 20; k++) {
            Check.due("new section(" + k + ", 0)", x.section(k, 0), 0);
            Check.due("new section(" + k + ", 1)", x.section(k, 1), 300);
        }
        for (int i = 0; i < 2; i++) {
            Check.due("new waiting(" + i + ", 0)", x.waiting(i, 0), CableFerry.NONE);
            Check.due("new deck(" + i + ", 0, 0)", x.deck(i, 0, 0), CableFerry.NONE);
        }
        Check.due("new firstError()", x.firstError(), 0);
        Check.due("new clearBuffer()", x.clearBuffer(), 0);
        Check.badState("new undo()", x::undo);
        Check.badState("new goBack()", x::goBack);
        Check.due("two new ones", x.digest(), new CableFerry().digest());
    }

    private static void current() {
        CableFerry x = new CableFerry();
        Check.undoable("current(0, 0)", x, () -> x.current(0, 0));
        Check.due("current(0, 40)", x.current(0, 40), 0);
        Check.due("current(23, 40)", x.current(23, 40), 10);
        Check.due("current(23, 40) again", x.current(23, 40), 40);
        Check.due("count(13)", x.count(13), 4);
        Check.due("currentOf(0)", x.currentOf(0), 40);
        Check.due("currentOf(1)", x.currentOf(1), 10);
        Check.due("currentOf(23)", x.currentOf(23), 40);
        Check.unchanged("wrong currents", x, () -> {
            Check.noIndex("current(-1, 10)", () -> x.current(-1, 10));
            Check.noIndex("current(24, 10)", () -> x.current(24, 10));
            Check.noIndex("current(24, 41)", () -> x.current(24, 41));
            Check.noIndex("current(MIN, MIN)", () -> x.current(MIN, MIN));
            Check.noIndex("current(MAX, 0)", () -> x.current(MAX, 0));
            Check.badArgument("current(0, -1)", () -> x.current(0, -1));
            Check.badArgument("current(23, 41)", () -> x.current(23, 41));
            Check.badArgument("current(0, MAX)", () -> x.current(0, MAX));
        });
    }

    private static void arrive() {
        CableFerry x = new CableFerry();
        Check.undoable("arrive(1, 20)", x, () -> x.arrive(1, 20));
        for (int i = 1; i <= 10; i++) {
            Check.due("arrive(0, " + i + ")", x.arrive(0, i), i);
        }
        Check.due("arrive(1, 1)", x.arrive(1, 1), 2);
        Check.due("count(9)", x.count(9), 12);
        for (int i = 0; i < 10; i++) {
            Check.due("waiting(0, " + i + ")", x.waiting(0, i), i + 1);
        }
        Check.due("waiting(1, 0)", x.waiting(1, 0), 20);
        Check.due("waiting(1, 1)", x.waiting(1, 1), 1);
        Check.unchanged("wrong arrivals", x, () -> {
            Check.noIndex("arrive(-1, 1)", () -> x.arrive(-1, 1));
            Check.noIndex("arrive(2, 0)", () -> x.arrive(2, 0));
            Check.noIndex("arrive(MAX, 1)", () -> x.arrive(MAX, 1));
            Check.badArgument("arrive(0, 0)", () -> x.arrive(0, 0));
            Check.badArgument("arrive(0, 21), full", () -> x.arrive(0, 21));
            Check.badArgument("arrive(1, MIN)", () -> x.arrive(1, MIN));
            Check.badState("arrive(0, 1), full", () -> x.arrive(0, 1));
        });
    }

    private static void load() {
        CableFerry x = new CableFerry();
        Check.badState("load(0), none waits", () -> x.load(0));
        x.arrive(1, 3);
        Check.badState("load(0), one waits at the other bank", () -> x.load(0));
        Check.type(x, "a0:11;a0:12;a0:13;a0:14;a0:15;a0:16");
        x.obey();
        Check.undoable("load(1)", x, () -> x.load(1));
        Check.due("waiting(0, 0)", x.waiting(0, 0), 12);
        Check.due("waiting(0, 4)", x.waiting(0, 4), 16);
        Check.due("waiting(0, 5)", x.waiting(0, 5), CableFerry.NONE);
        for (int i = 2; i <= 5; i++) {
            Check.due("load(0)", x.load(0), 10 + i);
        }
        Check.unchanged("wrong loads", x, () -> {
            Check.badState("load(0), 4 stand there", () -> x.load(0));
            Check.noIndex("load(-1)", () -> x.load(-1));
            Check.noIndex("load(2)", () -> x.load(2));
            Check.noIndex("load(MIN)", () -> x.load(MIN));
        });
        Check.due("load(1)", x.load(1), 16);
        for (int i = 0; i < 4; i++) {
            Check.due("deck(0, " + i + ", 0)", x.deck(0, i, 0), 12 + i);
            Check.due("deck(0, " + i + ", 1)", x.deck(0, i, 1), 0);
        }
        Check.due("deck(1, 0, 0)", x.deck(1, 0, 0), 11);
        Check.due("deck(1, 1, 0)", x.deck(1, 1, 0), 16);
        Check.due("count(2)", x.count(2), 6);
        Check.due("count(3)", x.count(3), 81);
        Check.due("count(4)", x.count(4), 27);
        Check.due("count(9)", x.count(9), 7);
        Check.noIndex("load(2), none waits", () -> new CableFerry().load(2));
    }

    private static void unload() {
        CableFerry x = new CableFerry();
        Check.undoable("unload() of an empty deck", x, x::unload);
        Check.due("count(13)", x.count(13), 1);
        Check.type(x, "a0:5;a0:5;a0:4;a1:6;l0;l1;x;l1");
        x.obey();
        Check.due("deck(1, 1, 1)", x.deck(1, 1, 1), 1);
        Check.undoable("unload()", x, x::unload);
        Check.due("carried", x.count(10), 2);
        Check.due("turned back", x.count(11), 1);
        Check.due("on the deck", x.count(2), 0);
        Check.due("list", x.count(4), 0);
        Check.due("gone, not waiting", x.waiting(1, 0), CableFerry.NONE);
        Check.due("waiting(0, 0)", x.waiting(0, 0), 4);
        Check.due("unload() again", x.unload(), 0);
        x.cross();
        x.load(0);
        x.cross();
        x.cross();
        Check.due("unload() where it drove on", x.unload(), 0);
        Check.due("turned back", x.count(11), 2);
        x.arrive(0, 1);
        x.load(0);
        x.cross();
        Check.due("unload() at the other bank", x.unload(), 1);
        Check.due("carried", x.count(10), 3);
    }
}
