/** Promises 18 to 20 and 31 to 34: a day that would be, by whom, where one is, days on end. */
public final class DayTest {
    private final Check check = new Check();

    public static void main(String[] args) {
        DayTest test = new DayTest();
        test.stops();
        test.fares();
        test.whole();
        test.between();
        test.changes();
        test.likeMinutes();
        test.hiredOnes();
        test.because();
        test.child();
        test.settles();
        test.check.finish();
    }

    private void stops() {
        BornAboard x = Check.of(Lines.TWO_TRAINS);
        int[][][] due = {{{1, 10, 0, 2, 2, 0}, {1, 20, 0, 0, 2, 0}, {1, 35, 1, 0, 1, 0}, {1, 50, 1, 0, 0, 0}},
            {{1, 30, 0, 1, 1, 0}, {0, 34, 0, 0, 1, 0}, {1, 40, 1, 0, 0, 0}}};
        for (int t = 0; t < 2; t++) {
            for (int k = 0; k < due[t].length; k++) {
                for (int what = 0; what < 6; what++) {
                    check.is("stops(" + t + ", " + k + ", " + what + ")", x.stops(t, k, what), due[t][k][what]);
                }
            }
        }
        check.is("stops(1, 3, 0)", x.stops(1, 3, 0), -1);
        check.is("stops(1, -1, 0)", x.stops(1, -1, 0), -1);
        check.is("stops(2, 0, 0)", x.stops(2, 0, 0), -1);
        check.is("stops(-1, 0, 0)", x.stops(-1, 0, 0), -1);
        check.is("stops(0, 0, 6)", x.stops(0, 0, 6), -1);
        check.is("stops(0, 0, -1)", x.stops(0, 0, -1), -1);
        check.is("nothing is an act", x.has(8), 0);
        check.is("nobody moved", x.person(0, 3), 0);
    }

    private void fares() {
        BornAboard x = Check.of(Lines.TWO_TRAINS);
        int[][] due = {{2, 35, 1, 1, 0}, {3, 50, 1, 1, 0}, {0, -1, 0, 0, 0}, {1, 40, 1, 1, 0}};
        faresAre(x, due);
        check.is("fares(4, 0)", x.fares(4, 0), -1);
        check.is("fares(-1, 0)", x.fares(-1, 0), -1);
        check.is("fares(0, 5)", x.fares(0, 5), -1);
        check.is("fares(0, -1)", x.fares(0, -1), -1);
        // q is not carried beyond: without p's stop nothing is late, and q's own wish is never called at.
        BornAboard taken = Check.of(Lines.TAKEN_ALONG);
        faresAre(taken, new int[][] {{1, 5, 1, 1, 0}, {3, 19, 1, 0, 1}});
    }

    private void faresAre(BornAboard x, int[][] due) {
        for (int p = 0; p < due.length; p++) {
            for (int what = 0; what < 5; what++) {
                check.is("fares(" + p + ", " + what + ")", x.fares(p, what), due[p][what]);
            }
        }
    }

    private void whole() {
        wholeIs(Check.of(Lines.TWO_TRAINS), 3, 0, 6, 0, 50, 3);
        wholeIs(Check.of(Lines.TAKEN_ALONG), 1, 1, 3, 0, 19, 1);
        wholeIs(Check.of("station a;person p age 1 born a at a to a price 1;"), 0, 0, 0, 0, -1, 1);
        BornAboard x = Check.of(Lines.TWO_TRAINS);
        x.hire(1, true);
        wholeIs(x, 3, 0, 6, 0, 50, 2);
        check.is("whole(6)", x.whole(6), -1);
        check.is("whole(-1)", x.whole(-1), -1);
        // A hired one at another place is not STRANDED, and who is content stays.
        BornAboard guided = Check.of(Lines.GUIDES);
        wholeIs(guided, 0, 2, 2, 0, 10, 3);
        guided.hire(3, true);
        wholeIs(guided, 2, 0, 3, 0, 14, 4);
    }

    private void wholeIs(BornAboard x, int... due) {
        for (int what = 0; what < 6; what++) {
            check.is("whole(" + what + ")", x.whole(what), due[what]);
        }
    }

    /** One stop between two stations, however many were born there and which way round. */
    private void between() {
        String text = "station a;station b;station c;stop 7;train t from 100 seats 9 calls a after 5 b after 6 c;"
            + "person p age 1 born b a at a to c price 0;person q age 1 born a b at a to c price 0;"
            + "person r age 1 born a c at a to c price 0;";
        BornAboard x = Check.of(text);
        check.is("at b", x.stops(0, 1, 1), 112);
        check.is("between a and b", x.stops(0, 1, 5), 1);
        check.is("no stop at b", x.stops(0, 1, 0), 0);
        check.is("all aboard", x.stops(0, 1, 4), 3);
        check.is("at c", x.stops(0, 2, 1), 118);
        check.is("not between b and c", x.stops(0, 2, 5), 0);
        wholeIs(x, 3, 0, 2, 1, 118, 3);
        BornAboard twice = Check.of(text.replace("born a b at", "born c b at"));
        check.is("between a and b", twice.stops(0, 1, 5), 1);
        check.is("between b and c", twice.stops(0, 2, 5), 1);
        check.is("at c", twice.stops(0, 2, 1), 125);
        check.is("stops between", twice.whole(3), 2);
        twice.wish(0, 0);
        check.is("who stays behind makes none", twice.whole(3), 1);
        x.wish(1, 0);
        check.is("one of two born there is enough", x.whole(3), 1);
        x.undo();
        x.wish(0, 0);
        check.is("or the other one", x.whole(3), 1);
        x.wish(1, 0);
        check.is("none without them", x.whole(3), 0);
    }

    /** p goes on by another train, from where the first one set him down. */
    private void changes() {
        BornAboard x = Check.of("station a;station b;station c;station d;stop 4;"
            + "train t from 0 seats 1 calls a after 5 b after 5 c;"
            + "train us from 10 seats 1 calls c after 3 b after 3 d;"
            + "person p age 1 born d at a to b price 0;");
        // He is carried to c, gets on there in the same minute as the later train, and is carried to d.
        faresAre(x, new int[][] {{3, 16, 2, 0, 1}});
        wholeIs(x, 0, 1, 4, 0, 16, 0);
    }

    private void likeMinutes() {
        String first = "train t from 0 seats 1 calls a after 10 b;";
        String second = "train us from 10 seats 1 calls b after 3 c;";
        String head = "station a;station b;station c;station d;";
        String p = "person p age 1 born d at a to b price 0;";
        String q = "person q age 1 born d at a to c price 0;";
        // Only who wishes to go to a station that a train calls at later gets on.
        BornAboard x = Check.of(head + first + second + q);
        check.is("q does not start", x.fares(0, 2), 0);
        String over = "train t from 0 seats 1 calls a after 5 c after 5 b;";
        BornAboard y = Check.of(head + over + second + q);
        faresAre(y, new int[][] {{2, 13, 2, 1, 0}});
        BornAboard z = Check.of(head + second + over + q);
        faresAre(z, new int[][] {{1, 10, 1, 0, 1}});
        BornAboard w = Check.of(head + first + p + "person o age 1 born d at a to b price 0;");
        faresAre(w, new int[][] {{1, 10, 1, 1, 0}, {0, -1, 0, 0, 0}});
    }

    /** Hired ones ride once, wherever to, and get off at the last station alone. */
    private void hiredOnes() {
        BornAboard x = Check.of("station a;station b;station c;station d;stop 4;"
            + "train t from 0 seats 2 calls a after 5 b after 5 c;"
            + "train us from 50 seats 2 calls c after 5 d;"
            + "person p age 1 born b at a to b price 9;");
        faresAre(x, new int[][] {{1, 5, 1, 1, 0}});
        x.hire(0, true);
        faresAre(x, new int[][] {{2, 14, 1, 0, 0}});
        check.is("stops at b because of him", x.stops(0, 1, 0), 1);
        check.is("does not get off there", x.stops(0, 1, 2), 0);
        x.wish(0, 2);
        check.is("ARRIVED though hired", x.fares(0, 3), 1);
        check.is("but no GOOD", x.whole(5), 0);
    }

    private void because() {
        BornAboard x = Check.of(Lines.TWO_TRAINS);
        int[][] because = {{0, 1, 2, 0}, {0, 0, 0}};
        for (int t = 0; t < 2; t++) {
            for (int k = 0; k < because[t].length; k++) {
                check.is("because(" + t + ", " + k + ")", x.because(t, k), because[t][k]);
            }
        }
        check.is("because(0, 4)", x.because(0, 4), -1);
        check.is("because(0, -1)", x.because(0, -1), -1);
        check.is("because(2, 0)", x.because(2, 0), -1);
        check.is("because(-1, 0)", x.because(-1, 0), -1);
        BornAboard taken = Check.of(Lines.TAKEN_ALONG);
        int[] left = {0, 0, 1, 0};
        for (int k = 0; k < 4; k++) {
            check.is("left(0, " + k + ")", taken.left(0, k), left[k]);
        }
        check.is("because of q", taken.because(0, 1), 2);
        check.is("because of nobody", taken.because(0, 2), 0);
        check.is("left(0, 4)", taken.left(0, 4), -1);
        check.is("left(0, -1)", taken.left(0, -1), -1);
        check.is("left(1, 0)", taken.left(1, 0), -1);
        check.is("left(-1, 0)", taken.left(-1, 0), -1);
        // Who gets off at the last station, where he was born, has not left ahead of it; who got off before has.
        BornAboard last = Check.of("station a;station b;station c;train t from 0 seats 9 calls a after 5 b after 5 c;"
            + "person p age 1 born c at a to c price 0;person q age 1 born b at a to b price 0;"
            + "person r age 1 born c at a to b price 0;");
        check.is("left ahead of the last", last.left(0, 2), 4);
        check.is("because at the last, with p aboard", last.because(0, 2), 0);
        // One left at each of two stations, both born at the last.
        BornAboard twice = Check.of("station a;station b;station c;station d;"
            + "train t from 0 seats 9 calls a after 5 b after 5 c after 5 d;"
            + "person p age 1 born d at a to b price 0;person q age 1 born d at a to c price 0;"
            + "person r age 1 born b at a to d price 0;person o age 1 born c at a to d price 0;");
        check.is("left at b and c", twice.left(0, 3), 3);
        check.is("left at b", twice.left(0, 2), 0);
    }

    private void child() {
        BornAboard x = Check.of(Lines.TWO_TRAINS);
        // p: at a till 10, between a and b, at b 20 to 25, between b and c, at c from 35 on.
        int[][] due = {{0, 0, -1}, {9, 0, -1}, {10, 0, -1}, {11, 0, 1}, {19, 0, 1}, {20, 1, -1}, {25, 1, -1}, {26, 1, 2},
            {34, 1, 2}, {35, 2, -1}, {36, 2, -1}, {9999, 2, -1}};
        for (int[] row : due) {
            check.is("child(0, " + row[0] + ", 0)", x.child(0, row[0], 0), row[1]);
            check.is("child(0, " + row[0] + ", 1)", x.child(0, row[0], 1), row[2]);
        }
        // s goes through c in 34: there in that minute, then between c and b.
        int[][] through = {{30, 3, -1}, {31, 3, 2}, {33, 3, 2}, {34, 2, -1}, {35, 2, 1}, {39, 2, 1}, {40, 1, -1}};
        for (int[] row : through) {
            check.is("child(3, " + row[0] + ", 0)", x.child(3, row[0], 0), row[1]);
            check.is("child(3, " + row[0] + ", 1)", x.child(3, row[0], 1), row[2]);
        }
        check.is("minute -1", x.child(0, -1, 0), -1);
        check.is("minute 10000", x.child(0, 10000, 0), -1);
        check.is("nobody", x.child(4, 0, 0), -1);
        check.is("person -1", x.child(-1, 0, 0), -1);
        check.is("what 2", x.child(0, 0, 2), -1);
        check.is("what -1", x.child(0, 0, -1), -1);
    }

    private void settles() {
        settlesAre(Check.of(Lines.TAKEN_ALONG), 2, 1, 2, 1);
        // Day 1: p, q, s there; day 2: r to d; day 3: r to b; day 4: nothing.
        settlesAre(Check.of(Lines.TWO_TRAINS), 4, 4, 4, 3);
        settlesAre(Check.of("station a;person p age 1 born a at a to a price 1;"), 1, 1, 0, 1);
        // To and fro, hired: 30 days are not enough.
        BornAboard x = Check.of("station a;station b;station c;train t from 0 seats 1 calls a after 5 b;"
            + "train us from 0 seats 1 calls b after 5 a;person p age 1 born a at a to c price 1;"
            + "person q age 1 born a at c to c price 0;");
        x.hire(0, true);
        settlesAre(x, 31, 1, 0, 1);
        check.is("settles(4)", x.settles(4), -1);
        check.is("settles(-1)", x.settles(-1), -1);
        check.is("nobody moved", x.person(0, 3), 0);
        check.is("one act", x.has(8), 1);
    }

    private void settlesAre(BornAboard x, int... due) {
        for (int what = 0; what < 4; what++) {
            check.is("settles(" + what + ")", x.settles(what), due[what]);
        }
    }
}
