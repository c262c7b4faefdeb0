/** "Promise 6" to "Promise 9": crossing, hours, drawing wire through, settings. */
final class FerrySentences {
    private static final int MIN = Integer.MIN_VALUE;
    private static final int MAX = Integer.MAX_VALUE;

    private FerrySentences() {
    }

    static void all() {
        cross();
        pass();
        draw();
        set();
    }

    private static void cross() {
        Sentences.section("Promise 6: cross");
        Sentences.holds("Lets the ferry cross.", FerrySentences::crossLetsTheFerryCross);
        Sentences.holds("Undoable.", FerrySentences::crossIsUndoable);
        Sentences.holds("Returns how many hours pass by it.", FerrySentences::crossReturnsHowManyHoursPass);
        Sentences.holds("Throws `IllegalStateException` if it cannot cross", FerrySentences::crossIfItCannot);
    }

    private static void pass() {
        Sentences.section("Promise 7: pass");
        Sentences.holds("Lets hours pass.", FerrySentences::passLetsHoursPass);
        Sentences.holds("Undoable, as one call.", FerrySentences::passIsUndoableAsOneCall);
        Sentences.holds("- `hours`: 1 to 100", FerrySentences::pass1To100);
        Sentences.holds("Returns the hours that have gone then.", FerrySentences::passReturnsTheHoursThatHaveGone);
        Sentences.holds("Throws `IllegalArgumentException` if hours is out of range", FerrySentences::passOutOfRange);
    }

    private static void draw() {
        Sentences.section("Promise 8: draw");
        Sentences.holds("Draws wire through.", FerrySentences::drawDrawsWireThrough);
        Sentences.holds("Undoable.", FerrySentences::drawIsUndoable);
        Sentences.holds("- `sections`: 1 to 5", FerrySentences::draw1To5);
        Sentences.holds("Returns how many sections are on the drum then.", FerrySentences::drawReturnsTheDrum);
        Sentences.holds("Throws `IllegalArgumentException` if sections is out of range",
            FerrySentences::drawOutOfRange);
        Sentences.holds("Throws `IllegalStateException` if there are not so many on the drum",
            FerrySentences::drawNotSoManyOnTheDrum);
    }

    private static void set() {
        Sentences.section("Promise 9: set");
        Sentences.holds("Changes a setting.", FerrySentences::setChangesOneSetting);
        Sentences.holds("Undoable.", FerrySentences::setIsUndoable);
        Sentences.holds("- `setting`: 0 to 2", FerrySentences::set0To2);
        Sentences.holds("- `value`: the new value", FerrySentences::setTheNewValue);
        Sentences.holds("Returns the previous value.", FerrySentences::setReturnsThePrevious);
        Sentences.holds("Throws `IndexOutOfBoundsException` if there is no such setting",
            FerrySentences::setNoSuchSetting);
        Sentences.holds("Throws `IllegalArgumentException` if value is out of range", FerrySentences::setOutOfRange);
    }

    private static void crossLetsTheFerryCross() {
        CableFerry x = new CableFerry();
        x.arrive(0, 5);
        x.arrive(1, 6);
        x.load(0);
        x.cross();
        Check.due("bank", x.count(1), 1);
        Check.due("crossings", x.count(8), 1);
        Check.due("hours", x.count(0), 1);
        Check.due("hours waited", x.count(12), 1);
        Check.due("deck(0, 0, 0), it stays on the deck", x.deck(0, 0, 0), 5);
        Check.due("deck(0, 0, 1)", x.deck(0, 0, 1), 0);
        Check.due("none is carried before it drives off", x.count(10), 0);
        // 1 to 10, times 25 / 10, and 15 each: 2 * (2+5+7+10+12+15+17+20+22+25 + 150).
        Check.due("stretch", x.count(6), 570 - 500);
        Check.due("slack", x.count(5), 1);
        Check.due("wear, 40 / 10", x.section(9, 0), 4);
    }

    private static void crossIsUndoable() {
        CableFerry x = new CableFerry();
        Check.undoable("cross() of a new ferry", x, x::cross);
        Check.undoable("cross() back", x, x::cross);
        CableFerry y = Scene.withOneSaved(Scene.slackened(43));
        Check.undoable("cross() with the slack 25", y, y::cross);
        Check.due("slack behind it", y.count(5), 27);
    }

    private static void crossReturnsHowManyHoursPass() {
        CableFerry x = Scene.calm();
        int[] hours = {1, 2, 3, 4};
        for (int due : hours) {
            Scene.stand(x, 0, 80);
            int before = x.count(0);
            Check.due("cross()", x.cross(), due);
            Check.due("hours that passed", x.count(0) - before, due);
        }
    }

    private static void crossIfItCannot() {
        CableFerry x = new CableFerry();
        Scene.add(x, 1, 13);
        Check.unchanged("cross(), the list", x, () -> Check.badState("cross(), the list", x::cross));
        x.set(1, 13);
        Check.due("cross(), the list 13, the setting 13", x.cross(), 1);
        CableFerry y = Scene.slackened(44);
        Check.unchanged("cross(), the slack 26", y, () -> Check.badState("cross(), the slack 26", y::cross));
        CableFerry z = new CableFerry();
        z.current(0, 40);
        z.set(0, 79);
        Check.unchanged("cross(), the wire", z, () -> Check.badState("cross(), the wire", z::cross));
        z.set(0, 80);
        Check.due("cross(), the wire just bears it", z.cross(), 1);
    }

    private static void passLetsHoursPass() {
        CableFerry x = new CableFerry();
        x.arrive(1, 5);
        x.arrive(0, 5);
        x.arrive(0, 5);
        x.load(0);
        x.pass(100);
        Check.due("hours", x.count(0), 100);
        Check.due("hours waited", x.count(12), 200);
        Check.due("bank", x.count(1), 0);
        Check.due("stretch", x.count(6), 0);
        x.pass(1);
        Check.due("hours", x.count(0), 101);
        Check.due("hours waited", x.count(12), 202);
    }

    private static void passIsUndoableAsOneCall() {
        CableFerry x = Scene.busy();
        Check.undoable("pass(1)", x, () -> x.pass(1));
        Check.undoable("pass(100)", x, () -> x.pass(100));
        int hours = x.count(0);
        x.undo();
        Check.due("all 100 hours undone", x.count(0), hours - 100);
    }

    private static void pass1To100() {
        CableFerry x = new CableFerry();
        int gone = 0;
        for (int hours = 1; hours <= 100; hours++) {
            gone += hours;
            Check.due("pass(" + hours + ")", x.pass(hours), gone);
        }
    }

    private static void passReturnsTheHoursThatHaveGone() {
        CableFerry x = new CableFerry();
        Check.due("pass(23)", x.pass(23), 23);
        Check.due("pass(1), not the hour of the day", x.pass(1), 24);
        Check.due("pass(100)", x.pass(100), 124);
        x.cross();
        Check.due("pass(1) behind cross()", x.pass(1), 126);
    }

    private static void passOutOfRange() {
        CableFerry x = Scene.busy();
        Check.unchanged("hours out of range", x, () -> {
            Check.badArgument("pass(0)", () -> x.pass(0));
            Check.badArgument("pass(-1)", () -> x.pass(-1));
            Check.badArgument("pass(101)", () -> x.pass(101));
            Check.badArgument("pass(MIN)", () -> x.pass(MIN));
            Check.badArgument("pass(MAX)", () -> x.pass(MAX));
        });
    }

    private static void drawDrawsWireThrough() {
        CableFerry x = new CableFerry();
        x.set(2, 1);
        x.cross();
        x.draw(3);
        Check.due("wear of 0, as 3 had", x.section(0, 0), 8);
        Check.due("wear of 16, as 19 had", x.section(16, 0), 2);
        Check.due("wear of 17, from the drum", x.section(17, 0), 0);
        Check.due("drum", x.count(7), 37);
        Check.due("stretch", x.count(6), 0);
        Check.due("hours", x.count(0), 4);
        Check.due("bank", x.count(1), 1);
    }

    private static void drawIsUndoable() {
        CableFerry x = Scene.withOneSaved(Scene.slackened(43));
        Check.undoable("draw(1)", x, () -> x.draw(1));
        Check.undoable("draw(5)", x, () -> x.draw(5));
        x.undo();
        x.undo();
        Check.due("slack, undone", x.count(5), 25);
        Check.due("stretch, undone", x.count(6), 480);
        Check.due("drum, undone", x.count(7), 40);
        for (int i = 0; i < 8; i++) {
            x.draw(5);
        }
        Check.due("undo() of the last on the drum", x.undo(), 5);
        Check.due("drum, undone", x.count(7), 5);
        Check.due("draw(5) again", x.draw(5), 0);
    }

    private static void draw1To5() {
        CableFerry x = new CableFerry();
        int left = 40;
        for (int sections = 1; sections <= 5; sections++) {
            left -= sections;
            Check.due("draw(" + sections + ")", x.draw(sections), left);
        }
        Check.due("hours", x.count(0), 15);
    }

    private static void drawReturnsTheDrum() {
        CableFerry x = new CableFerry();
        Check.due("draw(1)", x.draw(1), 39);
        Check.due("count(7)", x.count(7), 39);
        for (int left = 34; left >= 4; left -= 5) {
            Check.due("draw(5)", x.draw(5), left);
        }
        Check.due("draw(4), the last ones", x.draw(4), 0);
    }

    private static void drawOutOfRange() {
        CableFerry x = Scene.busy();
        Check.unchanged("sections out of range", x, () -> {
            Check.badArgument("draw(0)", () -> x.draw(0));
            Check.badArgument("draw(-1)", () -> x.draw(-1));
            Check.badArgument("draw(6)", () -> x.draw(6));
            Check.badArgument("draw(MIN)", () -> x.draw(MIN));
            Check.badArgument("draw(MAX)", () -> x.draw(MAX));
        });
        CableFerry y = Scene.emptyDrum();
        Check.badArgument("draw(0) from an empty drum", () -> y.draw(0));
        Check.badArgument("draw(6) from an empty drum", () -> y.draw(6));
    }

    private static void drawNotSoManyOnTheDrum() {
        CableFerry x = new CableFerry();
        for (int i = 0; i < 7; i++) {
            x.draw(5);
        }
        x.draw(1);
        Check.unchanged("5 of 4", x, () -> Check.badState("draw(5), 4 on the drum", () -> x.draw(5)));
        Check.due("draw(3)", x.draw(3), 1);
        Check.badState("draw(2), 1 on the drum", () -> x.draw(2));
        Check.due("draw(1), 1 on the drum", x.draw(1), 0);
        Check.unchanged("1 of 0", x, () -> {
            for (int sections = 1; sections <= 5; sections++) {
                int n = sections;
                Check.badState("draw(" + n + "), none on the drum", () -> x.draw(n));
            }
        });
    }

    private static void setChangesOneSetting() {
        int[] first = {300, 12, 10};
        for (int setting = 0; setting < 3; setting++) {
            CableFerry x = new CableFerry();
            x.set(setting, 50);
            for (int i = 0; i < 3; i++) {
                Check.due("setting(" + i + ") behind set(" + setting + ", 50)", x.setting(i),
                    i == setting ? 50 : first[i]);
            }
        }
        CableFerry x = new CableFerry();
        x.set(0, 50);
        Check.due("section(9, 1) at once", x.section(9, 1), 50);
    }

    private static void setIsUndoable() {
        CableFerry x = Scene.busy();
        Check.undoable("set(0, 999)", x, () -> x.set(0, 999));
        Check.undoable("set(1, 0)", x, () -> x.set(1, 0));
        Check.undoable("set(2, 3), as it is", x, () -> x.set(2, 3));
    }

    private static void set0To2() {
        CableFerry x = new CableFerry();
        Check.due("set(0, 60)", x.set(0, 60), 300);
        Check.due("set(1, 61)", x.set(1, 61), 12);
        Check.due("set(2, 32)", x.set(2, 32), 10);
        Check.due("setting(0)", x.setting(0), 60);
        Check.due("setting(1)", x.setting(1), 61);
        Check.due("setting(2)", x.setting(2), 32);
    }

    private static void setTheNewValue() {
        CableFerry x = new CableFerry();
        int[][] values = {{0, 50}, {0, 51}, {0, 998}, {0, 999}, {1, 0}, {1, 1}, {1, 79}, {1, 80}, {2, 1}, {2, 2},
            {2, 49}, {2, 50}};
        for (int[] value : values) {
            x.set(value[0], value[1]);
            Check.due("setting(" + value[0] + ")", x.setting(value[0]), value[1]);
        }
    }

    private static void setReturnsThePrevious() {
        CableFerry x = new CableFerry();
        Check.due("set(1, 0)", x.set(1, 0), 12);
        Check.due("set(1, 80)", x.set(1, 80), 0);
        Check.due("set(1, 80) again", x.set(1, 80), 80);
        x.undo();
        x.undo();
        Check.due("set(1, 7) behind undo()", x.set(1, 7), 0);
    }

    private static void setNoSuchSetting() {
        CableFerry x = Scene.busy();
        Check.unchanged("no such setting", x, () -> {
            Check.noIndex("set(-1, 50)", () -> x.set(-1, 50));
            Check.noIndex("set(3, 50)", () -> x.set(3, 50));
            Check.noIndex("set(MIN, 50)", () -> x.set(MIN, 50));
            Check.noIndex("set(MAX, 50)", () -> x.set(MAX, 50));
            Check.noIndex("set(3, -1)", () -> x.set(3, -1));
        });
    }

    private static void setOutOfRange() {
        CableFerry x = Scene.busy();
        Check.unchanged("values out of range", x, () -> {
            Check.badArgument("set(0, 49)", () -> x.set(0, 49));
            Check.badArgument("set(0, 1000)", () -> x.set(0, 1000));
            Check.badArgument("set(1, -1)", () -> x.set(1, -1));
            Check.badArgument("set(1, 81)", () -> x.set(1, 81));
            Check.badArgument("set(2, 0)", () -> x.set(2, 0));
            Check.badArgument("set(2, 51)", () -> x.set(2, 51));
            for (int setting = 0; setting < 3; setting++) {
                int s = setting;
                Check.badArgument("set(" + s + ", MIN)", () -> x.set(s, MIN));
                Check.badArgument("set(" + s + ", MAX)", () -> x.set(s, MAX));
            }
        });
    }
}
