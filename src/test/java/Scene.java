/** Ferries in a state that a test asks for. */
final class Scene {
    private Scene() {
    }

    /** No current, a strong wire that wears by its whole tension: 3 times the list, less 4 times the slack. */
    static CableFerry calm() {
        CableFerry x = new CableFerry();
        for (int hour = 0; hour < 24; hour++) {
            x.current(hour, 0);
        }
        x.set(0, 999);
        x.set(1, 80);
        x.set(2, 1);
        return x;
    }

    /** Puts vehicles of this weight together on a lane, alone on the deck. None may wait where the ferry is. */
    static void stand(CableFerry x, int lane, int weight) {
        x.unload();
        add(x, lane, weight);
    }

    static void add(CableFerry x, int lane, int weight) {
        for (int left = weight; left > 0; left -= 20) {
            x.arrive(x.count(1), Math.min(20, left));
            x.load(lane);
        }
    }

    static void crossWithLists(CableFerry x, int... lists) {
        for (int list : lists) {
            stand(x, 0, list);
            x.cross();
        }
    }

    /**
     * A calm ferry behind four crossings: a list of 80 pulls the slack to 9, 17 and 24 and the stretch to
     * 300, 380 and 320; then each section is pulled by 3 times the last list, less 96.
     */
    static CableFerry slackened(int lastList) {
        CableFerry x = calm();
        crossWithLists(x, 80, 80, 80, lastList);
        return x;
    }

    /** Sections 0 to 18 with a wear of 1000 or, before the last crossing, of 760; the section 19 with less. */
    static CableFerry wornOut() {
        CableFerry x = calm();
        // 240 + 204 + 172 + 144 is 760, with the slack 30 then.
        crossWithLists(x, 80, 80, 80, 80);
        x.draw(1);
        crossWithLists(x, 80);
        return x;
    }

    static void fill(CableFerry x, int bank) {
        for (int i = 0; i < 10; i++) {
            x.arrive(bank, i + 1);
        }
    }

    static void pass(CableFerry x, int hours) {
        for (int left = hours; left > 0; left -= 100) {
            x.pass(Math.min(100, left));
        }
    }

    static int obey(CableFerry x, String text) {
        Check.type(x, text);
        return x.obey();
    }

    /** All that is counted is above 0; one state is saved, there is a snapshot of it, and the buffer is empty. */
    static CableFerry busy() {
        CableFerry x = new CableFerry();
        x.set(2, 3);
        x.current(5, 31);
        obey(x, "a0:9;a0:7;a1:5;a1:6;a0:8;a0:4;l0;l1;x;u;l0;u;l0;x;u");
        obey(x, "d2;a1:2;a1:3;l0;l1;x;w7;l0;x;x;a1:3;a0:1");
        return withOneSaved(x);
    }

    static CableFerry withOneSaved(CableFerry x) {
        x.keep();
        for (int saved = x.count(13); saved > 0; saved--) {
            x.undo();
        }
        x.goBack();
        return x;
    }

    static CableFerry emptyDrum() {
        CableFerry x = new CableFerry();
        for (int i = 0; i < 8; i++) {
            x.draw(5);
        }
        return x;
    }
}
