/** Promises 25 to 30: what one is worth, where he had better been born, who was seen, what dies. */
public final class WorthTest {
    private final Check check = new Check();

    public static void main(String[] args) {
        WorthTest test = new WorthTest();
        test.worth();
        test.bear();
        test.stay();
        test.seen();
        test.dead();
        test.runs();
        test.check.finish();
    }

    private void worth() {
        BornAboard x = Check.of(Lines.GUIDES);
        x.hire(3, true);
        int[] due = {101, 101, 101, 102, 101};
        for (int p = 0; p < 5; p++) {
            check.is("worth(" + p + ")", x.worth(p), due[p]);
        }
        check.is("worth(5)", x.worth(5), -1);
        check.is("worth(-1)", x.worth(-1), -1);
        // The only seat is taken by one who is carried past his wish.
        BornAboard y = Check.of("station a;station b;station c;train t from 0 seats 1 calls a after 5 b after 5 c;"
            + "person p age 1 born a at a to b price 0;person q age 1 born a at a to c price 0;");
        check.is("below nothing", y.worth(0), 99);
        check.is("nothing", y.worth(1), 100);
    }

    private void bear() {
        BornAboard x = Check.of(Lines.GUIDES);
        check.is("bear(0, 0)", x.bear(0, 0), 1);
        check.is("bear(0, 1)", x.bear(0, 1), 5);
        check.is("z stays: the first one", x.bear(4, 0), 0);
        check.is("z stays", x.bear(4, 1), 3);
        check.is("bear(5, 0)", x.bear(5, 0), -1);
        check.is("bear(-1, 0)", x.bear(-1, 0), -1);
        check.is("bear(0, 2)", x.bear(0, 2), -1);
        check.is("bear(0, -1)", x.bear(0, -1), -1);
        check.is("born as he was", x.person(0, 1), 0);
        // Born between two now; at one station then.
        BornAboard y = Check.of("station a;station b;station c;train t from 0 seats 1 calls a after 5 b after 5 c;"
            + "person p age 1 born a b at a to b price 0;");
        check.is("at b", y.bear(0, 0), 1);
        check.is("GOOD then", y.bear(0, 1), 1);
        check.is("the second one stays", y.person(0, 2), 1);
    }

    private void stay() {
        BornAboard x = Check.of(Lines.TAKEN_ALONG);
        check.is("q gets there instead", x.stay(0), 1);
        x.wish(0, 3);
        check.is("p to d: both get there", x.stay(0), 2);
        check.is("q never gets off at c", x.stay(1), 1);
        check.is("stay(2)", x.stay(2), -1);
        check.is("stay(-1)", x.stay(-1), -1);
        BornAboard y = Check.of(Lines.GUIDES);
        y.hire(3, true);
        check.is("p goes past b", y.stay(0), 3);
        check.is("y is hired anyway", y.stay(3), 4);
    }

    private void seen() {
        BornAboard x = Check.of(Lines.GUIDES);
        seenAre(x, 7, 24, 0, 31);
        seenAre(x, 5, 8, 0, 19);
        seenAre(x, 3, -1, -1, -1);
        seenAre(x, 6, -1, -1, -1);
        seenAre(x, 15, -1, -1, -1);
        seenAre(x, 0, -1, -1, -1);
        seenAre(x, 5 | Integer.MIN_VALUE, -1, -1, -1);
        check.is("seen(1, 5, 0)", x.seen(1, 5, 0), -1);
        check.is("seen(-1, 5, 0)", x.seen(-1, 5, 0), -1);
        check.is("seen(0, 5, 3)", x.seen(0, 5, 3), -1);
        check.is("seen(0, 5, -1)", x.seen(0, 5, -1), -1);
        // Only p was born at c; nobody at b once q is gone there.
        BornAboard y = Check.of(Lines.TAKEN_ALONG);
        seenAre(y, 15, 1, 3, 3);
        seenAre(y, 13, 1, 1, 1);
        seenAre(y, 9, 1, 0, 0);
        BornAboard z = Check.of("station a;station b;station c;train t from 0 seats 1 calls a after 5 b after 5 c;"
            + "person p age 1 born a b at a to c price 0;");
        seenAre(z, 7, 0, 0, 0);
        seenAre(z, 5, 2, 0, 1);
    }

    private void seenAre(BornAboard x, int bits, int... due) {
        for (int what = 0; what < 3; what++) {
            check.is("seen(0, " + bits + ", " + what + ")", x.seen(0, bits, what), due[what]);
        }
    }

    private void dead() {
        BornAboard x = Check.of(Lines.TWO_TRAINS);
        check.is("dead(0)", x.dead(0), 0);
        check.is("dead(1)", x.dead(1), 4);
        check.is("dead(2)", x.dead(2), -1);
        check.is("dead(-1)", x.dead(-1), -1);
    }

    private void runs() {
        String text = "station a;station b;station c;person p age 99 born a at b to b price 0;";
        BornAboard x = Check.of(text);
        x.seed(Draws.seedFor(98));
        int seed = x.has(9);
        check.is("a dies", x.runs(1, 1, 0, 0), 1);
        check.is("drawn on", x.has(9), Draws.next(seed));
        check.is("age stays", x.person(0, 0), 99);
        check.is("YEAR stays", x.has(6), 0);
        check.is("no act", x.has(8), 0);
        x.seed(seed);
        check.is("b lives", x.runs(1, 1, 1, 0), 0);
        x.seed(seed);
        check.is("one died", x.runs(1, 1, 2, 1), 1);
        x.seed(seed);
        check.is("each run starts as it was", x.runs(20, 1, 2, 1) >= 18, true);
        x.seed(Draws.seedFor(99));
        check.is("nobody dies", x.runs(1, 1, 0, 0), 0);
        seed = x.has(9);
        int[][] cannot = {{0, 1, 0, 0}, {21, 1, 0, 0}, {1, 0, 0, 0}, {1, 21, 0, 0}, {1, 1, 3, 0}, {1, 1, -1, 1},
            {1, 1, 0, 2}, {1, 1, 0, -1}};
        for (int[] row : cannot) {
            check.is("runs can't be", x.runs(row[0], row[1], row[2], row[3]), -1);
        }
        check.is("no draw then", x.has(9), seed);
        lateRuns(text);
    }

    private void lateRuns(String text) {
        BornAboard x = Check.of(text);
        Check.toYear(x, 9998);
        x.runs(3, 20, 0, 0);
        check.is("three years in all", x.has(9), Draws.after(1, 3));
        x.seed(Draws.seedFor(99));
        x.years(1);
        int seed = x.has(9);
        check.is("no year is left", x.runs(20, 20, 0, 1), 0);
        check.is("a is as now", x.runs(20, 20, 2, 0), 20);
        check.is("no draw", x.has(9), seed);
    }
}
