/** Long runs of calls, each answered by CableFerry and by Model. The seeds are fixed. */
public final class ModelTest {
    private static final int RUNS = 60;
    private static final int CALLS = 512;
    private static final int KINDS = 31;
    private static final int[] ODD = {Integer.MIN_VALUE, -2, -1, 0, 1, 2, 3, 4, 5, 6, 8, 9, 10, 13, 14, 19, 20, 21,
        23, 24, 25, 32, 33, 40, 41, 49, 50, 80, 81, 100, 101, 126, 127, 999, 1000, Integer.MAX_VALUE};
    private static final String[] PARTS = {"a0:1", "a1:9", "a0:12", "a1:20", "l0", "l1", "l0", "l1", "u", "x", "x",
        "w1", "w9", "w13", "w24", "d1", "d3", "d5"};
    private static final String SIGNS = "a01:l2ux;w34d569;;xu78~";

    private final CableFerry ferry = new CableFerry();
    private final Model model = new Model();
    private final int run;
    private final int strain;
    private long seed;

    private ModelTest(int run) {
        this.run = run;
        seed = run;
        strain = run % 4;
    }

    public static void main(String[] args) {
        for (int run = 0; run < RUNS; run++) {
            new ModelTest(run).play();
        }
        Check.end();
    }

    private void play() {
        int calls = 0;
        if (strain > 0) {
            both(0, 0, strain == 1 ? 999 : 400, 7);
            both(0, 1, 80, 7);
            both(0, 2, strain == 3 ? 1 : 20, 7);
            calls = 3;
        }
        while (calls < CALLS - 1) {
            calls += upTo(8) == 0 ? text() : one();
            if (upTo(12) == 0) {
                hash();
                calls++;
            }
        }
    }

    private void hash() {
        // The looks at all are more calls than an object is used for, but change nothing.
        long digest = ferry.digest();
        for (int a = 0; a < 24; a++) {
            lookAt(a);
        }
        Check.due(run + ": digest() behind looks", ferry.digest(), digest);
        Check.due(run + ": digest()", digest, Hash.of(ferry, model.buffer(), model.hasKept()));
    }

    private void lookAt(int a) {
        for (int b = 0; b < 3; b++) {
            both(0, a, b, 15);
        }
        both(0, a % 2, a / 2, 16);
        both(a / 2 % 2, a % 2, a / 4, 17);
        for (int kind = 18; kind <= 20; kind++) {
            both(0, a, 0, kind);
        }
        for (int kind = 21; a < 9 && kind <= 29; kind++) {
            both(0, a, 0, kind);
        }
        both(0, 0, 0, 10);
    }

    private int text() {
        String text = PARTS[upTo(PARTS.length)];
        while (upTo(4) != 0) {
            text += ";" + PARTS[upTo(PARTS.length)];
        }
        if (upTo(3) == 0) {
            int place = upTo(text.length());
            text = text.substring(0, place) + SIGNS.charAt(upTo(SIGNS.length()))
                + text.substring(place + upTo(2));
        }
        int calls = 0;
        for (char c : text.toCharArray()) {
            both(0, c, 0, 8);
            calls++;
        }
        both(0, 0, 0, 10);
        both(0, 0, 0, upTo(8) == 0 ? 9 : 11);
        return calls + 2;
    }

    private int one() {
        boolean odd = upTo(10) == 0;
        int kind = upTo(3) == 0 ? upTo(KINDS) : upTo(8);
        if (kind == 9 || kind == 8 || kind == 7 && strain > 0 && upTo(4) > 0) {
            kind = 4;
        }
        if (odd) {
            both(odd(), odd(), odd(), kind);
        } else {
            ordinary(kind);
        }
        return 1;
    }

    /** A number from 0, below the bound: the same ones in each run with the same number. */
    private int upTo(int bound) {
        seed = seed * 6364136223846793005L + 1442695040888963407L;
        return (int) ((seed >>> 33) % bound);
    }

    private int odd() {
        return ODD[upTo(ODD.length)];
    }

    private void ordinary(int kind) {
        switch (kind) {
            case 0 -> both(0, upTo(24), strain == 0 ? upTo(41) : 20 + upTo(21), 0);
            case 1 -> both(0, upTo(2), 1 + upTo(20), 1);
            case 5 -> both(0, 1 + upTo(upTo(5) == 0 ? 100 : 5), 0, 5);
            case 6 -> both(0, 1 + upTo(5), 0, upTo(4) == 0 ? 6 : 4);
            case 7 -> both(0, upTo(3), upTo(4) == 0 ? 1 + upTo(80) : 50, 7);
            case 15 -> both(0, upTo(20), upTo(3), 15);
            case 17 -> both(upTo(2), upTo(2), upTo(4), 17);
            case 18 -> both(0, upTo(14), 0, 18);
            case 25 -> both(0, upTo(9), 0, 25);
            default -> both(0, upTo(2), upTo(11), kind);
        }
    }

    private void both(int c, int a, int b, int kind) {
        String call = run + ": call " + kind + " (" + a + ", " + b + ", " + c + ")";
        Check.dueText(call, Check.answer(() -> ofFerry(kind, a, b, c)), Check.answer(() -> ofModel(kind, a, b, c)));
    }

    private long ofFerry(int kind, int a, int b, int c) {
        return switch (kind) {
            case 0 -> ferry.current(a, b);
            case 1 -> ferry.arrive(a, b);
            case 2 -> ferry.load(a);
            case 3 -> ferry.unload();
            case 4 -> ferry.cross();
            case 5 -> ferry.pass(a);
            case 6 -> ferry.draw(a);
            case 7 -> ferry.set(a, b);
            case 8 -> ferry.append(a);
            case 9 -> ferry.clearBuffer();
            case 10 -> ferry.firstError();
            case 11 -> ferry.obey();
            case 12 -> ferry.keep();
            case 13 -> ferry.goBack();
            case 14 -> ferry.undo();
            case 15 -> ferry.section(a, b);
            case 16 -> ferry.waiting(a, b);
            case 17 -> ferry.deck(a, b, c);
            case 18 -> ferry.count(a);
            case 19 -> ferry.currentOf(a);
            case 20 -> ferry.setting(a);
            case 21 -> ferry.why();
            case 22 -> ferry.weakest();
            case 23 -> ferry.ifLoaded(a);
            case 24 -> ferry.bestHour();
            case 25 -> ferry.leastList(a);
            case 26 -> ferry.lasts();
            case 27 -> ferry.needed();
            case 28 -> Float.floatToIntBits(ferry.wornShare());
            case 29 -> Double.doubleToLongBits(ferry.carriedShare());
            default -> ferry.count(12);
        };
    }

    private long ofModel(int kind, int a, int b, int c) {
        return switch (kind) {
            case 0 -> model.current(a, b);
            case 1 -> model.arrive(a, b);
            case 2 -> model.load(a);
            case 3 -> model.unload();
            case 4 -> model.cross();
            case 5 -> model.pass(a);
            case 6 -> model.draw(a);
            case 7 -> model.set(a, b);
            case 8 -> model.append(a);
            case 9 -> model.clearBuffer();
            case 10 -> model.firstError();
            case 11 -> model.obey();
            case 12 -> model.keep();
            case 13 -> model.goBack();
            case 14 -> model.undo();
            case 15 -> model.section(a, b);
            case 16 -> model.waiting(a, b);
            case 17 -> model.deck(a, b, c);
            case 18 -> model.count(a);
            case 19 -> model.currentOf(a);
            case 20 -> model.setting(a);
            case 21 -> model.why();
            case 22 -> model.weakest();
            case 23 -> model.ifLoaded(a);
            case 24 -> model.bestHour();
            case 25 -> model.leastList(a);
            case 26 -> model.lasts();
            case 27 -> model.needed();
            case 28 -> Float.floatToIntBits(model.wornShare());
            case 29 -> Double.doubleToLongBits(model.carriedShare());
            default -> model.count(12);
        };
    }
}
