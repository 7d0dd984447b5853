import java.util.Random;

/**
 * Random runs of calls, each answer compared with the model's; the seeds are fixed, so all runs are the same. Each call
 * is an answer that is asked, so a run ends, by the count of these, ahead of an object's 512th call.
 */
public final class ModelTest {
    private static final int KINDS = 39;
    // The longest step, a line with a full tape, and all of the state at the end fit behind it.
    private static final int ASKED = 330;
    private final Check check = new Check();

    public static void main(String[] args) {
        int runs = args.length > 0 ? Integer.parseInt(args[0]) : 2000;
        ModelTest test = new ModelTest();
        for (int seed = 0; seed < runs && !test.check.failed(); seed++) {
            test.readTexts(seed);
            test.run(seed, seed % 10 == 0 ? 10 : 5);
        }
        test.check.finish();
    }

    private void readTexts(int seed) {
        Texts texts = new Texts(new Random(1000 + seed));
        BornAboard x = new BornAboard();
        Model m = new Model();
        for (int n = 0; n < 4; n++) {
            String text = texts.sound(5);
            tellBoth(x, m, n == 0 ? text : texts.spoilt(text), "text " + seed + "/" + n);
        }
        tellBoth(x, m, texts.ninety(), "ninety " + seed);
    }

    private void tellBoth(BornAboard x, Model m, String text, String where) {
        String fed = text.substring(0, Math.min(1600, text.length()));
        putBoth(x, m, fed.chars().toArray(), where);
        check.is(where + " line() of " + fed, x.line(), m.line());
        check.is(where + " fault(0) of " + fed, x.fault(0), m.fault(0));
        check.is(where + " fault(1) of " + fed, x.fault(1), m.fault(1));
        check.is(where + " has(2)", x.has(2), m.has(2));
    }

    private void putBoth(BornAboard x, Model m, int[] bytes, String where) {
        check.is(where + " end(0)", x.end(0), m.end(0));
        for (int k = 0; k < bytes.length; k += 20) {
            int[] n = Check.packed(bytes, k);
            check.is(where + " feed", x.feed(n[0], n[1], n[2], n[3], n[4]), m.feed(n[0], n[1], n[2], n[3], n[4]));
        }
        check.is(where + " end", x.end(bytes.length), m.end(bytes.length));
    }

    private void run(int seed, int people) {
        Random random = new Random(seed);
        BornAboard x = new BornAboard();
        Model m = new Model();
        Texts texts = new Texts(random);
        int start = check.asked();
        if (seed % 7 > 0) {
            tellBoth(x, m, texts.sound(people), "run " + seed);
        }
        for (int n = 0; check.asked() - start < ASKED && !check.failed(); n++) {
            int kind = random.nextInt(KINDS);
            String where = "run " + seed + " call " + n;
            if (kind == 37 && random.nextBoolean()) {
                putImage(x, m, random, where);
                check.is(where + " on()", x.on(), m.on());
            } else if (kind == 0 && random.nextInt(4) == 0) {
                tellBoth(x, m, random.nextBoolean() ? texts.sound(people) : texts.spoilt(texts.sound(people)), where);
            } else {
                compare(x, m, kind, random, where);
            }
            compareSome(x, m, random, where + " kind " + kind);
        }
        compareState(x, m, "run " + seed + " at its end");
    }

    private void compareSome(BornAboard x, Model m, Random random, String where) {
        int what = random.nextInt(11);
        check.is(where + ": has(" + what + ")", x.has(what), m.has(what));
        check.is(where + ": has(8)", x.has(8), m.has(8));
        int p = random.nextInt(Math.max(1, m.has(2)));
        int of = random.nextInt(7);
        check.is(where + ": person(" + p + ", " + of + ")", x.person(p, of), m.person(p, of));
    }

    private void compareState(BornAboard x, Model m, String where) {
        for (int what = -1; what <= 11; what++) {
            check.is(where + ": has(" + what + ")", x.has(what), m.has(what));
        }
        for (int p = 0; p < m.has(2); p++) {
            for (int what = 0; what <= 6; what++) {
                check.is(where + ": person(" + p + ", " + what + ")", x.person(p, what), m.person(p, what));
            }
        }
    }

    /** An image of now, sometimes with a byte that is another one and the last byte as that asks. */
    private void putImage(BornAboard x, Model m, Random random, String where) {
        int n = x.image();
        check.is(where + " image()", n, m.image());
        int[] bytes = new int[n];
        for (int k = 0; k < n; k++) {
            bytes[k] = x.octet(k);
            check.is(where + " octet(" + k + ")", bytes[k], m.octet(k));
        }
        int changes = random.nextInt(4);
        for (int c = 0; c < changes; c++) {
            bytes[random.nextInt(n)] = random.nextInt(random.nextBoolean() ? 3 : random.nextBoolean() ? 16 : 256);
        }
        if (random.nextInt(8) > 0) {
            int c = 67;
            for (int k = 0; k < n - 1; k++) {
                c = (5 * c + bytes[k]) % 249;
            }
            bytes[n - 1] = c;
        }
        putBoth(x, m, bytes, where);
    }

    private void compare(BornAboard x, Model m, int kind, Random random, String where) {
        int t = random.nextInt(8) - 1;
        int k = random.nextInt(10) - 1;
        int p = random.nextInt(Math.max(1, m.has(2)) + 1) - random.nextInt(2);
        int q = random.nextInt(Math.max(1, m.has(2)) + 1) - random.nextInt(2);
        int s = random.nextInt(Math.max(1, m.has(0)) + 1) - random.nextInt(2);
        int what = random.nextInt(8) - 1;
        int bits = random.nextInt(20) == 0 ? random.nextInt() : random.nextInt(1 << Math.max(1, m.has(2)));
        String call = where + " kind " + kind + " (" + t + " " + k + " " + p + " " + q + " " + s + " " + what + " "
            + bits + ")";
        switch (kind) {
            case 0: check.is(call, x.feed(t, k, p, q, bits), m.feed(t, k, p, q, bits)); break;
            case 1: check.is(call, x.end(7 * t), m.end(7 * t)); break;
            case 2: check.is(call, x.fault(what), m.fault(what)); break;
            case 3: check.is(call, x.has(what), m.has(what)); break;
            case 4: check.is(call, x.letter(what % 4, s, k), m.letter(what % 4, s, k)); break;
            case 5: check.is(call, x.station(s, what), m.station(s, what)); break;
            case 6: check.is(call, x.train(t, what * 5 + k), m.train(t, what * 5 + k)); break;
            case 7: check.is(call, x.person(p, what), m.person(p, what)); break;
            case 8: check.is(call, x.hire(p, s % 2 == 0), m.hire(p, s % 2 == 0)); break;
            case 9: check.is(call, x.wish(p, s), m.wish(p, s)); break;
            case 10: check.is(call, x.move(p, s), m.move(p, s)); break;
            case 11: check.is(call, x.day(), m.day()); break;
            case 12: check.is(call, x.years(k * (1 + t)), m.years(k * (1 + t))); break;
            case 13: check.is(call, x.undo(), m.undo()); break;
            case 14: check.is(call, x.seed(bits * 7919), m.seed(bits * 7919)); break;
            case 15: check.is(call, x.stops(t, k, what), m.stops(t, k, what)); break;
            case 16: check.is(call, x.fares(p, what), m.fares(p, what)); break;
            case 17: check.is(call, x.whole(what), m.whole(what)); break;
            case 18: check.is(call, x.least(p, what % 3), m.least(p, what % 3)); break;
            case 19: check.is(call, x.most(what % 4), m.most(what % 4)); break;
            case 20: check.is(call, x.places(what % 4), m.places(what % 4)); break;
            case 21: check.is(call, x.hiring(bits), m.hiring(bits)); break;
            case 22: check.is(call, x.worth(p), m.worth(p)); break;
            case 23: check.is(call, x.bear(p, what % 3), m.bear(p, what % 3)); break;
            case 24: check.is(call, x.stay(p), m.stay(p)); break;
            case 25: compareSeen(x, m, random, call); break;
            case 26: check.is(call, x.dead(k), m.dead(k)); break;
            case 27: check.is(call, x.runs(t, k, s, what % 3), m.runs(t, k, s, what % 3)); break;
            case 28: check.is(call, x.because(t, k), m.because(t, k)); break;
            case 29: check.is(call, x.left(t, k), m.left(t, k)); break;
            case 30: check.is(call, x.settles(what), m.settles(what)); break;
            case 31: check.is(call, x.both(p, q, what % 3), m.both(p, q, what % 3)); break;
            case 32: check.is(call, x.image(), m.image()); break;
            case 33: check.is(call, x.octet(bits % 70), m.octet(bits % 70)); break;
            case 34: check.is(call, x.status(what), m.status(what)); break;
            case 35: compareDay(x, m, random, call); break;
            case 36: compareChildren(x, m, random, call); break;
            case 37: check.is(call, x.on(), m.on()); break;
            default: check.is(call, x.line(), m.line()); break;
        }
    }

    private void compareSeen(BornAboard x, Model m, Random random, String call) {
        for (int t = -1; t <= m.has(1); t++) {
            int n = Math.max(2, m.train(t, 2));
            int bits = random.nextInt(1 << n + 1) | 1 | (random.nextInt(4) > 0 ? 1 << n - 1 : 0);
            bits &= random.nextInt(4) > 0 ? (1 << n) - 1 : -1;
            for (int what = -1; what <= 3; what++) {
                check.is(call + " seen(" + t + ", " + bits + ", " + what + ")", x.seen(t, bits, what), m.seen(t, bits, what));
            }
        }
    }

    /** Of one of the trains and one of the people. */
    private void compareDay(BornAboard x, Model m, Random random, String call) {
        int t = random.nextInt(Math.max(1, m.has(1)));
        for (int k = 0; k < m.train(t, 2); k++) {
            for (int what = 0; what < 6; what++) {
                check.is(call + " stops(" + t + ", " + k + ", " + what + ")", x.stops(t, k, what), m.stops(t, k, what));
            }
            check.is(call + " because(" + t + ", " + k + ")", x.because(t, k), m.because(t, k));
            check.is(call + " left(" + t + ", " + k + ")", x.left(t, k), m.left(t, k));
        }
        int p = random.nextInt(Math.max(1, m.has(2)));
        for (int what = 0; what < 5; what++) {
            check.is(call + " fares(" + p + ", " + what + ")", x.fares(p, what), m.fares(p, what));
        }
    }

    private void compareChildren(BornAboard x, Model m, Random random, String call) {
        int start = m.train(0, 0);
        for (int n = 0; n < 12; n++) {
            int p = random.nextInt(m.has(2) + 2) - 1;
            int minute = random.nextBoolean() ? random.nextInt(2000) - 1 : start + random.nextInt(60);
            for (int what = -1; what <= 2; what++) {
                check.is(call + " child(" + p + ", " + minute + ", " + what + ")", x.child(p, minute, what), m.child(p, minute, what));
            }
        }
    }
}
