/** Promises 11 to 17 and 24: acts, what they change, and how they are undone. */
public final class ActsTest {
    private final Check check = new Check();

    public static void main(String[] args) {
        ActsTest test = new ActsTest();
        test.hire();
        test.wishAndMove();
        test.day();
        test.yearsRefused();
        test.deathAndBirth();
        test.wishesTurn();
        test.oldest();
        test.undo();
        test.undoTwenty();
        test.seed();
        test.hiring();
        test.check.finish();
    }

    private void hire() {
        BornAboard x = Check.of(Lines.TWO_TRAINS);
        check.is("hire without a price", x.hire(0, true), false);
        check.is("not hire without a price", x.hire(0, false), false);
        check.is("not hire who is not", x.hire(1, false), false);
        check.is("hire", x.hire(1, true), true);
        check.is("hire who is", x.hire(1, true), false);
        check.is("hire nobody", x.hire(4, true), false);
        check.is("hire -1", x.hire(-1, true), false);
        check.is("acts", x.has(8), 1);
        check.is("not hire", x.hire(1, false), true);
        check.is("hired then", x.person(1, 6), 0);
        check.is("acts", x.has(8), 2);
        check.is("status(2)", x.status(2), 6);
    }

    private void wishAndMove() {
        BornAboard x = Check.of(Lines.TWO_TRAINS);
        check.is("wish", x.wish(0, 4), true);
        check.is("the wish", x.person(0, 4), 4);
        check.is("wish the same", x.wish(0, 4), false);
        check.is("wish no station", x.wish(0, 5), false);
        check.is("wish -1", x.wish(0, -1), false);
        check.is("nobody wishes", x.wish(4, 0), false);
        check.is("-1 wishes", x.wish(-1, 0), false);
        check.is("status(2)", x.status(2), 5);
        check.is("move", x.move(3, 0), true);
        check.is("where", x.person(3, 3), 0);
        check.is("move there", x.move(3, 0), false);
        check.is("move nowhere", x.move(3, 5), false);
        check.is("move -1", x.move(3, -1), false);
        check.is("nobody moves", x.move(4, 0), false);
        check.is("-1 moves", x.move(-1, 0), false);
        check.is("status(2)", x.status(2), 10);
        check.is("acts", x.has(8), 2);
    }

    private void day() {
        BornAboard x = Check.of(Lines.TWO_TRAINS);
        check.is("day()", x.day(), 3);
        int[] where = {2, 3, 0, 1};
        for (int p = 0; p < 4; p++) {
            check.is("behind the day " + p, x.person(p, 3), where[p]);
        }
        check.is("no YEAR", x.has(6), 0);
        check.is("no DRAW", x.has(9), 1);
        check.is("one act", x.has(8), 1);
        // Now r has a seat, makes a stop between a and b, but no stop at b: d is his last station.
        check.is("stops between", x.whole(3), 1);
        check.is("day() again", x.day(), 0);
        check.is("r", x.person(2, 3), 3);
        // From d us brings him to its last station, b.
        check.is("day() once more", x.day(), 1);
        check.is("r", x.person(2, 3), 1);
        check.is("day() of all there", x.day(), 0);
        BornAboard hired = Check.of(Lines.TWO_TRAINS);
        hired.hire(1, true);
        check.is("a hired one arrives, too", hired.day(), 3);
    }

    private void yearsRefused() {
        BornAboard x = Check.of(Lines.TWO_TRAINS);
        check.is("years(0)", x.years(0), -1);
        check.is("years(-1)", x.years(-1), -1);
        check.is("years(41)", x.years(41), -1);
        check.is("status(3)", x.status(3), 3);
        check.is("acts", x.has(8), 0);
        check.is("seed", x.has(9), 1);
        check.is("years(40)", x.years(40) > 0, true);
        check.is("YEAR", x.has(6), 40);
        check.is("one act", x.has(8), 1);
        BornAboard late = new BornAboard();
        Check.toYear(late, 9990);
        check.is("YEAR", late.has(6), 9990);
        check.is("beyond 9999", late.years(10), -1);
        check.is("to 9999", late.years(9), 0);
        check.is("YEAR", late.has(6), 9999);
        check.is("beyond 9999", late.years(1), -1);
        check.is("status(3)", late.status(3), 2);
    }

    private void deathAndBirth() {
        String text = "station a;station b;station c;person p age 50 born a at b to c price 5;"
            + "person q age 0 born a c at b to c price 0;";
        BornAboard x = Check.of(text);
        x.hire(0, true);
        int seed = Draws.seedFor(49);
        x.seed(seed);
        check.is("a draw below his age", x.years(1), 1);
        int[] due = {0, 1, -1, 1, 0, 5, 1};
        for (int what = 0; what < 7; what++) {
            check.is("the child's " + what, x.person(0, what), due[what]);
        }
        check.is("the other's age", x.person(1, 0), 1);
        check.is("the other's birth", x.person(1, 2), 2);
        check.is("a DRAW each", x.has(9), Draws.next(Draws.next(seed)));
        x.undo();
        x.seed(Draws.seedFor(50));
        check.is("a draw that is his age", x.years(1), 0);
        check.is("a year older", x.person(0, 0), 51);
        check.is("born there still", x.person(0, 1), 0);
        BornAboard between = Check.of("station a;station b;station c;person p age 50 born a c at b to c price 5;");
        between.seed(Draws.seedFor(0));
        check.is("born between two", between.years(1), 1);
        check.is("the child's birth", between.person(0, 1), 1);
        check.is("no second one", between.person(0, 2), -1);
        check.is("the wish stays", between.person(0, 4), 2);
    }

    private void wishesTurn() {
        BornAboard x = Check.of("station a;station b;station c;train t from 5 seats 5 calls a after 5 b;"
            + "person p age 0 born a at a to b price 0;person q age 0 born a at c to c price 0;"
            + "person r age 0 born a at c to a price 0;");
        x.years(1);
        check.is("p is at b", x.person(0, 3), 1);
        check.is("p wishes to be where he was", x.person(0, 4), 0);
        check.is("q was there already", x.person(1, 4), 2);
        check.is("r did not get there", x.person(2, 4), 0);
        x.undo();
        x.day();
        check.is("a DAY turns no wish", x.person(0, 4), 1);
    }

    private void oldest() {
        BornAboard x = Check.of("station a;person p age 99 born a at a to a price 0;person q age 98 born a at a to a price 0;");
        x.seed(Draws.seedFor(99, 98));
        check.is("nobody dies", x.years(1), 0);
        check.is("99 at most", x.person(0, 0), 99);
        check.is("98 and 1", x.person(1, 0), 99);
        x.seed(Draws.seedFor(98));
        check.is("98 is below 99", x.years(1) > 0, true);
        check.is("a child", x.person(0, 0), 0);
    }

    private void undo() {
        BornAboard x = Check.of(Lines.TWO_TRAINS);
        check.is("undo nothing", x.undo(), false);
        check.is("status(4)", x.status(4), 1);
        x.hire(1, true);
        x.wish(0, 4);
        x.move(0, 3);
        x.hiring(8);
        x.day();
        x.years(30);
        long seed = x.has(9);
        check.is("acts", x.has(8), 6);
        check.is("undo years", x.undo(), true);
        check.is("YEAR", x.has(6), 0);
        check.is("age", x.person(0, 0), 30);
        check.is("the seed stays", x.has(9), seed);
        check.is("s is behind the day at b", x.person(3, 3), 1);
        check.is("undo the day", x.undo(), true);
        check.is("s is at d", x.person(3, 3), 3);
        check.is("undo the hiring", x.undo(), true);
        check.is("q is hired, s not", x.person(1, 6) * 2 + x.person(3, 6), 2);
        check.is("undo the move", x.undo(), true);
        check.is("p is at a", x.person(0, 3), 0);
        check.is("p wishes", x.person(0, 4), 4);
        check.is("undo the wish", x.undo(), true);
        check.is("p wished", x.person(0, 4), 2);
        check.is("undo hire", x.undo(), true);
        check.is("nobody is hired", x.has(3), 0);
        check.is("undo no more", x.undo(), false);
        check.is("acts", x.has(8), 0);
    }

    private void undoTwenty() {
        BornAboard x = Check.of(Lines.TWO_TRAINS);
        for (int n = 1; n <= 25; n++) {
            x.wish(0, n % 5);
            check.is("acts after " + n, x.has(8), Math.min(n, 20));
        }
        for (int n = 24; n >= 5; n--) {
            check.is("undo to " + n, x.undo(), true);
            check.is("wish after " + n, x.person(0, 4), n % 5);
        }
        check.is("the 21st", x.undo(), false);
        check.is("an act behind that", x.day() >= 0 && x.undo() && !x.undo(), true);
    }

    private void seed() {
        BornAboard x = Check.of("station a;person p age 0 born a at a to a price 0;");
        check.is("seed(-1)", x.seed(-1), false);
        check.is("seed least", x.seed(Integer.MIN_VALUE), false);
        check.is("stays", x.has(9), 1);
        check.is("seed(0)", x.seed(0), true);
        x.years(1);
        check.is("behind 0", x.has(9), 12345);
        check.is("seed most", x.seed(Integer.MAX_VALUE), true);
        check.is("it", x.has(9), Integer.MAX_VALUE);
        x.years(1);
        check.is("behind most", x.has(9), Draws.next(Integer.MAX_VALUE));
        check.is("no act", x.has(8), 2);
        check.is("status(5)", x.status(5), 2);
    }

    private void hiring() {
        BornAboard x = Check.of(Lines.TWO_TRAINS);
        check.is("somebody without a price", x.hiring(3), false);
        check.is("somebody who is not there", x.hiring(16), false);
        check.is("bits below 0", x.hiring(Integer.MIN_VALUE), false);
        check.is("all bits", x.hiring(-1), false);
        check.is("status(2)", x.status(2), 4);
        check.is("none, as it is", x.hiring(0), true);
        check.is("no act", x.has(8), 0);
        check.is("q and s", x.hiring(10), true);
        check.is("hired", x.person(1, 6) + x.person(3, 6) + 4 * x.person(2, 6), 2);
        check.is("an act", x.has(8), 1);
        check.is("again", x.hiring(10), true);
        check.is("no act", x.has(8), 1);
        check.is("r alone", x.hiring(4), true);
        check.is("COIN", x.has(4), 3);
        check.is("nobody", x.hiring(0), true);
        check.is("hired", x.has(3), 0);
        check.is("acts", x.has(8), 3);
    }
}
