/** "The wire", "Crossing" and "Drawing wire through". */
final class CableSentences {
    private CableSentences() {
    }

    static void all() {
        wire();
        crossing();
        Sentences.section("Drawing wire through");
        Sentences.holds("Wire can be drawn through by n sections, 1 to 5, if so many are on the drum: the section k"
            + " gets the wear that the section k + n had, the last n sections come from the drum, without wear, and"
            + " those that were the first n are gone.", CableSentences::drawnThroughByNSections);
        Sentences.holds("Slack and stretch are 0 then, and n hours pass.", CableSentences::slackAndStretchAre0Then);
    }

    private static void wire() {
        Sentences.section("The wire");
        Sentences.holds("The wire has 20 sections, numbered from 0 at the bank 0.", CableSentences::has20Sections);
        Sentences.holds("Each has a wear, 0 to 1000, at first 0; its strength is setting 0, less its wear divided by"
            + " 2, but at least 0.", CableSentences::wear0To1000AndStrength);
        Sentences.holds("The wire has a slack, 0 to 30, at first 0, and a stretch, 0 to 499, at first 0.",
            CableSentences::slack0To30Stretch0To499);
        Sentences.holds("On a drum there are more sections without wear, at first 40.", CableSentences::drumAtFirst40);
        Sentences.holds("The tension of the section k in an hour with the current c is found so, with the vehicles"
            + " that are on the deck: c times the lesser one of k + 1 and 20 - k, divided by 10; this times (20 and"
            + " the weights of all vehicles on the deck, together), divided by 10; this and 3 times the list, less 4"
            + " times the slack; but at least 0.", CableSentences::tensionIsAtLeast0);
    }

    private static void crossing() {
        Sentences.section("Crossing");
        Sentences.holds("The ferry cannot cross, for the first of these reasons that applies: 1: the list is above"
            + " setting 1; 2: the slack is above 25; 3: a section has a tension above its strength, by the current of"
            + " the hour of the day as it is now.", CableSentences::reasonsWhyItCannotCross);
        Sentences.holds("When it crosses, the tensions are those by the current, the deck and the slack as they are"
            + " when it sets out.", CableSentences::tensionsAsItSetsOut);
        Sentences.holds("The wear of each section becomes more by its tension divided by setting 2, but is at most"
            + " 1000.", CableSentences::wearIsAtMost1000);
        Sentences.holds("The stretch becomes more by the tensions of all sections together; then, as long as it is 500"
            + " or more, it becomes 500 less, and the slack 1 more (but it stays at most 30).",
            CableSentences::stretchOf500IsSlack);
        Sentences.holds("Then 1 hour passes, and one more for every full 10 of the slack as it is by then.",
            CableSentences::oneMoreHourForEveryFull10);
        Sentences.holds("The ferry is at the other bank then.", CableSentences::atTheOtherBankThen);
    }

    private static void dueWire(CableFerry x, String when, int slack, int stretch) {
        Check.due("slack " + when, x.count(5), slack);
        Check.due("stretch " + when, x.count(6), stretch);
    }

    private static void has20Sections() {
        CableFerry x = new CableFerry();
        for (int k = 0; k < 20; k++) {
            Check.due("section(" + k + ", 2)", x.section(k, 2), 2 * Math.min(k + 1, 20 - k));
        }
        Check.noIndex("section(-1, 2)", () -> x.section(-1, 2));
        Check.noIndex("section(20, 2)", () -> x.section(20, 2));
        x.set(2, 1);
        x.cross();
        x.draw(1);
        Check.due("from the bank 0 at the bank 1, too", x.section(0, 0), 4);
        Check.due("the last one comes from the drum", x.section(19, 0), 0);
    }

    private static void wear0To1000AndStrength() {
        CableFerry x = Scene.calm();
        Check.due("wear at first", x.section(19, 0), 0);
        Check.due("strength at first", x.section(19, 1), 999);
        Scene.crossWithLists(x, 1);
        Check.due("wear 3", x.section(19, 0), 3);
        Check.due("strength less 3 / 2", x.section(19, 1), 998);
        CableFerry y = Scene.wornOut();
        Check.due("the greatest wear", y.section(0, 0), 1000);
        Check.due("strength of 999 less 500", y.section(0, 1), 499);
        y.set(0, 501);
        Check.due("strength of 501 less 500", y.section(0, 1), 1);
        y.set(0, 500);
        Check.due("strength of 500 less 500", y.section(0, 1), 0);
        y.set(0, 499);
        Check.due("strength of 499 less 500 is at least 0", y.section(0, 1), 0);
        y.set(0, 50);
        Check.due("strength of 50 less 500 is at least 0", y.section(0, 1), 0);
        Check.due("strength of 50 less 120", y.section(19, 1), 0);
        y.set(0, 999);
        Scene.crossWithLists(y, 80);
        Check.due("the greatest wear behind one more crossing", y.section(0, 0), 1000);
        y.draw(1);
        Check.due("strength without wear", y.section(19, 1), 999);
    }

    private static void slack0To30Stretch0To499() {
        CableFerry x = new CableFerry();
        dueWire(x, "at first", 0, 0);
        Scene.add(x, 0, 13);
        Scene.add(x, 1, 13);
        x.cross();
        dueWire(x, "behind 498", 0, 498);
        CableFerry y = Scene.slackened(43);
        dueWire(y, "before the last crossing", 25, 480);
        // 240 - 100 each: 2800 and 480 are 6 times 500, and 280.
        Scene.crossWithLists(y, 80);
        dueWire(y, "at most 30", 30, 280);
    }

    private static void drumAtFirst40() {
        CableFerry x = new CableFerry();
        Check.due("drum at first", x.count(7), 40);
        x.set(2, 1);
        x.cross();
        for (int left = 35; left >= 0; left -= 5) {
            Check.due("draw(5)", x.draw(5), left);
            for (int k = 15; k < 20; k++) {
                Check.due("wear of " + k + " from the drum", x.section(k, 0), 0);
            }
        }
        Check.due("drum", x.count(7), 0);
        Check.badState("draw(1) from an empty drum", () -> x.draw(1));
    }

    private static void tensionIsAtLeast0() {
        CableFerry x = new CableFerry();
        x.current(0, 40);
        Check.due("section(0, 2), k + 1", x.section(0, 2), 8);
        Check.due("section(9, 2), both alike", x.section(9, 2), 80);
        Check.due("section(10, 2), 20 - k", x.section(10, 2), 80);
        Check.due("section(19, 2), 20 - k", x.section(19, 2), 8);
        x.current(0, 0);
        Check.due("section(9, 2) without a current", x.section(9, 2), 0);
        x.current(0, 13);
        x.arrive(0, 9);
        Check.due("a vehicle that waits does not pull", x.section(9, 2), 26);
        x.load(0);
        // 13 * 10 / 10 * 29 / 10 is 37; 13 * 3 / 10 is 3, 3 * 29 / 10 is 8; each and 27.
        Check.due("section(9, 2)", x.section(9, 2), 64);
        Check.due("section(2, 2)", x.section(2, 2), 35);
        Scene.add(x, 1, 9);
        // 13 * 38 / 10 is 49: the list is 0.
        Check.due("section(9, 2), the weights of both lanes", x.section(9, 2), 49);
        CableFerry y = Scene.calm();
        Scene.crossWithLists(y, 80);
        Check.due("slack", y.count(5), 9);
        Scene.stand(y, 1, 13);
        Check.due("39 less 36", y.section(4, 2), 3);
        Scene.stand(y, 1, 12);
        Check.due("36 less 36", y.section(4, 2), 0);
        Scene.stand(y, 1, 11);
        Check.due("33 less 36 is at least 0", y.section(4, 2), 0);
        y.unload();
        Check.due("0 less 36 is at least 0", y.section(4, 2), 0);
        y.current(1, 19);
        Check.due("38 less 36", y.section(9, 2), 2);
    }

    private static void reasonsWhyItCannotCross() {
        CableFerry x = new CableFerry();
        Scene.add(x, 0, 12);
        Check.due("list 12, setting 12", x.why(), 0);
        Scene.add(x, 0, 1);
        Check.due("list 13, setting 12", x.why(), 1);
        x.set(1, 13);
        Check.due("list 13, setting 13", x.why(), 0);
        Check.due("slack 25", Scene.slackened(43).why(), 0);
        Check.due("slack 25, no stretch", Scene.slackened(35).why(), 0);
        CableFerry y = Scene.slackened(44);
        Check.due("slack", y.count(5), 26);
        Check.due("slack 26", y.why(), 2);
        Scene.stand(y, 0, 80);
        y.set(0, 50);
        Check.due("slack 26 and a tension above the strength", y.why(), 2);
        y.set(1, 79);
        Check.due("a list of 80 first, setting 79", y.why(), 1);
        CableFerry z = new CableFerry();
        z.set(0, 80);
        z.current(0, 40);
        Check.due("tension 80, strength 80", z.why(), 0);
        z.set(0, 79);
        Check.due("tension 80, strength 79", z.why(), 3);
        z.pass(1);
        Check.due("the current of the hour 1", z.why(), 0);
        z.pass(23);
        Check.due("the current of the hour 0 a day later", z.why(), 3);
        oneSectionIsEnough();
    }

    private static void oneSectionIsEnough() {
        CableFerry x = Scene.wornOut();
        x.set(0, 500);
        Scene.stand(x, 0, 13);
        // The slack is 9: 39 less 36. The section 19 has a wear of 240 alone.
        Check.due("strength of the section 0", x.section(0, 1), 0);
        Check.due("tension", x.section(0, 2), 3);
        Check.due("19 sections too weak", x.why(), 3);
        Scene.stand(x, 0, 12);
        Check.due("strength 0, tension 0", x.why(), 0);
        CableFerry y = Scene.wornOut();
        for (int n = 5; n >= 3; n--) {
            y.draw(n);
        }
        y.draw(5);
        y.draw(1);
        // Now the section 0 alone is worn out.
        y.set(0, 502);
        Scene.stand(y, 0, 1);
        Check.due("wear of the section 0", y.section(0, 0), 1000);
        Check.due("wear of the section 1", y.section(1, 0), 240);
        Check.due("tension", y.section(0, 2), 3);
        Check.due("the first section alone too weak", y.why(), 3);
        y.set(0, 503);
        Check.due("tension 3, strength 3", y.why(), 0);
    }

    private static void tensionsAsItSetsOut() {
        CableFerry x = new CableFerry();
        x.set(2, 1);
        x.current(0, 40);
        x.current(1, 0);
        x.arrive(1, 20);
        x.cross();
        Check.due("wear by the current of the hour 0", x.section(9, 0), 80);
        // By the current 40: 8 to 80, twice. A slack of 1 comes behind it.
        dueWire(x, "behind it", 1, 380);
        x.cross();
        Check.due("wear by the current of the hour 1", x.section(9, 0), 80);
        CableFerry y = Scene.calm();
        Scene.stand(y, 1, 80);
        Check.due("hours", y.cross(), 1);
        Check.due("wear by the slack before", y.section(9, 0), 240);
        y.cross();
        Check.due("wear by the slack 9", y.section(9, 0), 240 + 204);
        CableFerry z = new CableFerry();
        z.set(2, 1);
        z.pass(23);
        z.current(23, 30);
        z.current(0, 2);
        z.cross();
        Check.due("wear by the current of the hour 23", z.section(9, 0), 60);
    }

    private static void wearIsAtMost1000() {
        CableFerry x = Scene.calm();
        x.set(2, 50);
        Scene.stand(x, 0, 16);
        x.cross();
        Check.due("48 / 50", x.section(7, 0), 0);
        Scene.stand(x, 0, 18);
        x.cross();
        // The slack is 1 then: 54 less 4.
        Check.due("50 / 50", x.section(7, 0), 1);
        x.set(2, 49);
        Scene.stand(x, 0, 35);
        x.cross();
        // The slack is 3 then: 105 less 12 are 93.
        Check.due("slack before", x.count(5), 7);
        Check.due("93 / 49", x.section(7, 0), 2);
        CableFerry y = Scene.calm();
        Scene.crossWithLists(y, 80, 80, 80, 80);
        y.draw(1);
        Check.due("wear before", y.section(0, 0), 760);
        Scene.stand(y, 0, 80);
        y.cross();
        Check.due("760 and 240", y.section(0, 0), 1000);
        y.cross();
        Check.due("1000 and 204", y.section(18, 0), 1000);
        Check.due("240 and 204", y.section(19, 0), 444);
        CableFerry z = Scene.calm();
        Scene.crossWithLists(z, 80, 80, 80, 79);
        z.draw(1);
        Check.due("wear before", z.section(0, 0), 757);
        Scene.crossWithLists(z, 80, 40);
        Check.due("997 and 84", z.section(0, 0), 1000);
    }

    private static void stretchOf500IsSlack() {
        CableFerry x = new CableFerry();
        Scene.add(x, 0, 13);
        Scene.add(x, 1, 13);
        x.cross();
        dueWire(x, "behind 498", 0, 498);
        CableFerry y = new CableFerry();
        y.current(0, 11);
        Scene.add(y, 0, 4);
        y.cross();
        dueWire(y, "behind 500", 1, 0);
        CableFerry z = new CableFerry();
        Scene.add(z, 0, 11);
        Scene.add(z, 1, 10);
        z.cross();
        dueWire(z, "behind 502", 1, 2);
        CableFerry v = new CableFerry();
        v.current(0, 40);
        v.set(0, 999);
        Scene.add(v, 0, 45);
        Scene.add(v, 1, 35);
        v.cross();
        dueWire(v, "behind 5000", 10, 0);
        dueWire(Scene.slackened(34), "behind 320 and 120", 24, 440);
        dueWire(Scene.slackened(35), "behind 320 and 180", 25, 0);
        slackStaysAtMost30();
    }

    private static void slackStaysAtMost30() {
        CableFerry x = Scene.slackened(43);
        x.keep();
        Scene.crossWithLists(x, 64);
        dueWire(x, "behind 480 and 1840", 29, 320);
        x.goBack();
        Scene.crossWithLists(x, 70);
        dueWire(x, "behind 480 and 2200", 30, 180);
        x.goBack();
        Scene.crossWithLists(x, 80);
        dueWire(x, "behind 480 and 2800", 30, 280);
    }

    private static void dueHours(int before, int list, int slack, int hours) {
        CableFerry x = Scene.calm();
        Scene.crossWithLists(x, 80);
        if (before == 17) {
            Scene.crossWithLists(x, 80);
        }
        if (before == 25) {
            x = Scene.slackened(43);
        }
        Check.due("slack before", x.count(5), before);
        Scene.stand(x, 1, list);
        int gone = x.count(0);
        Check.due("cross() to the slack " + slack, x.cross(), hours);
        Check.due("hours that passed", x.count(0) - gone, hours);
        Check.due("slack", x.count(5), slack);
    }

    private static void oneMoreHourForEveryFull10() {
        Check.due("cross() with the slack 0", new CableFerry().cross(), 1);
        dueHours(9, 15, 9, 1);
        dueHours(9, 16, 10, 2);
        dueHours(17, 41, 19, 2);
        dueHours(17, 42, 20, 3);
        dueHours(25, 64, 29, 3);
        dueHours(25, 70, 30, 4);
        dueHours(25, 80, 30, 4);
        CableFerry x = Scene.calm();
        Scene.crossWithLists(x, 80);
        Scene.fill(x, 0);
        Scene.stand(x, 0, 16);
        int waited = x.count(12);
        x.cross();
        Check.due("10 wait for 2 hours", x.count(12) - waited, 20);
    }

    private static void atTheOtherBankThen() {
        CableFerry x = new CableFerry();
        x.cross();
        Check.due("bank behind a crossing", x.count(1), 1);
        x.cross();
        Check.due("bank behind two", x.count(1), 0);
        x.cross();
        Check.due("bank behind three", x.count(1), 1);
    }

    private static void drawnThroughByNSections() {
        for (int n = 1; n <= 5; n++) {
            CableFerry x = new CableFerry();
            x.set(2, 1);
            x.current(0, 17);
            x.cross();
            int[] wears = new int[25];
            for (int k = 0; k < 20; k++) {
                wears[k] = x.section(k, 0);
            }
            Check.due("draw(" + n + ")", x.draw(n), 40 - n);
            for (int k = 0; k < 20; k++) {
                Check.due("wear of " + k + " behind draw(" + n + ")", x.section(k, 0), wears[k + n]);
            }
        }
        CableFerry x = new CableFerry();
        Check.badArgument("draw(0)", () -> x.draw(0));
        Check.badArgument("draw(6)", () -> x.draw(6));
        for (int n = 1; n <= 5; n++) {
            drawnFromADrumOf(n);
        }
    }

    private static void drawnFromADrumOf(int n) {
        CableFerry x = new CableFerry();
        for (int i = 0; i < 7; i++) {
            x.draw(5);
        }
        if (n < 5) {
            x.draw(5 - n);
            Check.badState("draw(" + (n + 1) + ") from a drum of " + n, () -> x.draw(n + 1));
        }
        Check.due("drum", x.count(7), n);
        Check.due("draw(" + n + ") from a drum of " + n, x.draw(n), 0);
        Check.badState("draw(1) from an empty drum", () -> x.draw(1));
    }

    private static void slackAndStretchAre0Then() {
        for (int n = 1; n <= 5; n++) {
            CableFerry x = Scene.slackened(43);
            x.unload();
            Scene.fill(x, 1);
            int hours = x.count(0);
            int waited = x.count(12);
            dueWire(x, "before", 25, 480);
            x.draw(n);
            dueWire(x, "behind draw(" + n + ")", 0, 0);
            Check.due("hours of draw(" + n + ")", x.count(0) - hours, n);
            Check.due("10 wait for them", x.count(12) - waited, 10 * n);
        }
    }
}
