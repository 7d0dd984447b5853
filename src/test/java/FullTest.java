/** A line with as much as there can be of all: each answer is compared with the model's, and no index is beyond. */
public final class FullTest {
    private final Check check = new Check();

    public static void main(String[] args) {
        FullTest test = new FullTest();
        test.check.is("line()", fresh(-1).line(), 30);
        Model m = new Model();
        int[] bytes = full().chars().toArray();
        for (int k = 0; k < bytes.length; k += 20) {
            int[] n = Check.packed(bytes, k);
            m.feed(n[0], n[1], n[2], n[3], n[4]);
        }
        test.check.is("the model's line()", m.line(), 30);
        test.compare(m, 0);
        m.hiring(1023);
        test.compare(m, 1);
        test.check.is("runs", fresh(1).runs(5, 20, 13, 1), m.runs(5, 20, 13, 1));
        test.check.is("years", m.years(40) > 0, true);
        test.compare(m, 2);
        test.check.finish();
    }

    /** One that has heard the calls up to a stage; each is asked some questions alone, far fewer than 512. */
    private static BornAboard fresh(int stage) {
        BornAboard x = new BornAboard();
        Check.put(x, full());
        if (stage >= 0) {
            x.line();
        }
        if (stage >= 1) {
            x.hiring(1023);
        }
        if (stage >= 2) {
            x.runs(5, 20, 13, 1);
            x.years(40);
        }
        return x;
    }

    /** 14 stations, 6 trains with 8 calls each, 10 people with a price. */
    static String full() {
        StringBuilder text = new StringBuilder();
        for (int s = 0; s < 14; s++) {
            text.append("station s").append((char) ('a' + s)).append(';');
        }
        for (int t = 0; t < 6; t++) {
            text.append("train t").append((char) ('a' + t)).append(" from ").append(5 * t).append(" seats ").append(12 - 2 * t)
                .append(" calls s").append((char) ('a' + t));
            for (int k = 1; k < 8; k++) {
                text.append(" after ").append(k + t).append(" s").append((char) ('a' + (t + (t % 2 == 0 ? k : 14 - k)) % 14));
            }
            text.append(';');
        }
        for (int p = 0; p < 10; p++) {
            text.append("person p").append((char) ('a' + p)).append(" age ").append(9 * p).append(" born s")
                .append((char) ('a' + (3 * p + 4) % 14)).append(p == 9 ? " sm" : "").append(" at s").append((char) ('a' + p % 6))
                .append(" to s").append((char) ('a' + (5 * p + 3) % 14)).append(" price ").append(1 + p % 3).append(';');
        }
        return text.toString();
    }

    private void compare(Model m, int stage) {
        BornAboard x = fresh(stage);
        for (int what = -1; what <= 11; what++) {
            check.is("has(" + what + ")", x.has(what), m.has(what));
            check.is("whole(" + what + ")", x.whole(what), m.whole(what));
            check.is("dead(" + what + ")", x.dead(what), m.dead(what));
            check.is("settles(" + what + ")", x.settles(what), m.settles(what));
        }
        for (int what = 0; what < 3; what++) {
            check.is("most(" + what + ")", x.most(what), m.most(what));
            check.is("places(" + what + ")", x.places(what), m.places(what));
        }
        for (int s = 0; s <= 14; s++) {
            for (int what = 0; what < 4; what++) {
                check.is("station(" + s + ", " + what + ")", x.station(s, what), m.station(s, what));
            }
        }
        for (int p = 0; p <= 10; p++) {
            comparePerson(fresh(stage), m, p);
        }
        for (int t = 0; t <= 6; t++) {
            compareTrain(fresh(stage), m, t);
        }
        check.is("image()", x.image(), m.image());
        for (int k = -1; k <= 63; k++) {
            check.is("octet(" + k + ")", x.octet(k), m.octet(k));
        }
    }

    private void comparePerson(BornAboard x, Model m, int p) {
        for (int what = 0; what < 7; what++) {
            check.is("person(" + p + ", " + what + ")", x.person(p, what), m.person(p, what));
            check.is("fares(" + p + ", " + what + ")", x.fares(p, what), m.fares(p, what));
            check.is("letter(2, " + p + ", " + what + ")", x.letter(2, p, what), m.letter(2, p, what));
        }
        for (int what = 0; what < 2; what++) {
            check.is("least(" + p + ", " + what + ")", x.least(p, what), m.least(p, what));
            check.is("bear(" + p + ", " + what + ")", x.bear(p, what), m.bear(p, what));
            check.is("both(" + p + ", 9, " + what + ")", x.both(p, 9, what), m.both(p, 9, what));
            for (int minute = 0; minute < 120; minute += 7) {
                check.is("child(" + p + ", " + minute + ", " + what + ")", x.child(p, minute, what), m.child(p, minute, what));
            }
        }
        check.is("worth(" + p + ")", x.worth(p), m.worth(p));
        check.is("stay(" + p + ")", x.stay(p), m.stay(p));
    }

    private void compareTrain(BornAboard x, Model m, int t) {
        for (int k = 0; k <= 8; k++) {
            for (int what = 0; what < 6; what++) {
                check.is("stops(" + t + ", " + k + ", " + what + ")", x.stops(t, k, what), m.stops(t, k, what));
            }
            check.is("because(" + t + ", " + k + ")", x.because(t, k), m.because(t, k));
            check.is("left(" + t + ", " + k + ")", x.left(t, k), m.left(t, k));
        }
        for (int bits = 129; bits < 256; bits += 14) {
            for (int what = 0; what < 3; what++) {
                check.is("seen(" + t + ", " + bits + ", " + what + ")", x.seen(t, bits, what), m.seen(t, bits, what));
            }
        }
        for (int what = 0; what < 30; what++) {
            check.is("train(" + t + ", " + what + ")", x.train(t, what), m.train(t, what));
        }
    }
}
