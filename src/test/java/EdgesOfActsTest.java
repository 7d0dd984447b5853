/** The edges of promises 11 to 17 and 24: acts, how they are undone, and the seed. */
public final class EdgesOfActsTest extends Edges {
    private static final String TEN = Lines.stations(14) + Lines.people(10, 1, "a", "a", "n", 1);

    public static void main(String[] args) {
        new EdgesOfActsTest().runAll();
    }

    private static Calls told(String text) {
        return x -> Check.tell(x, text);
    }

    // ---- promise 11

    @Says({"One is hired (is true), or not: true", "one is hired, or not (price above 0)", "0: not to be hired"})
    void p11_aPriceOf1And99ButNot0() {
        BornAboard x = Check.of(Lines.stations(1) + Lines.person("p", 1, "a", "a", "a", 0)
            + Lines.person("q", 1, "a", "a", "a", 1)
            + Lines.person("r", 1, "a", "a", "a", 99));
        check.is("price 0", x.hire(0, true), false);
        check.is("price 1", x.hire(1, true), true);
        check.is("price 99", x.hire(2, true), true);
        check.is("not, with price 0", x.hire(0, false), false);
        check.is("not, with price 1", x.hire(1, false), true);
        check.is("hired", 4 * x.person(2, 6) + 2 * x.person(1, 6) + x.person(0, 6), 4);
        check.is("acts", x.has(8), 3);
        check.is("refused", x.status(2), 2);
    }

    @Says("false, refused (2), when there is none such, price is 0, or it is so already.")
    void p11_refused() {
        denies("price 0", Edges::start, x -> x.hire(0, true), CHANGE);
        denies("not, price 0", Edges::start, x -> x.hire(0, false), CHANGE);
        denies("hired already", Edges::start, x -> x.hire(1, true), CHANGE);
        denies("not hired already", told(Lines.SMALL), x -> x.hire(1, false), CHANGE);
        deniedOutside("hire", 2, Edges::start, (x, p) -> x.hire(p, true), CHANGE);
        deniedOutside("not hire", 2, Edges::start, (x, p) -> x.hire(p, false), CHANGE);
        check.is("the tenth", Check.of(TEN).hire(9, true), true);
        deniedOutside("hire of ten", 9, told(TEN), (x, p) -> x.hire(p, true), CHANGE);
    }

    // ---- promises 12 and 13

    interface Change {
        boolean of(BornAboard x, int person, int station);
    }

    /** A wish or a move, which changes what person() tells by this number. */
    private void isChanged(Change change, int what) {
        BornAboard x = Check.of(TEN);
        int there = x.person(9, what);
        check.is("the last one, the other end", change.of(x, 9, 13 - there), true);
        check.is("it", x.person(9, what), 13 - there);
        check.is("and back", change.of(x, 9, there), true);
        check.is("it", x.person(9, what), there);
        check.is("the first one", change.of(x, 0, 12), true);
        check.is("acts", x.has(8), 3);
        check.is("refused", x.status(2), 0);
    }

    private void isNotChanged(Change change, int what) {
        denies("already", Edges::start, x -> change.of(x, 1, x.person(1, what)), CHANGE);
        denies("already, at first", told(TEN), x -> change.of(x, 9, x.person(9, what)), CHANGE);
        deniedOutside("nobody", 2, Edges::start, (x, p) -> change.of(x, p, 1), CHANGE);
        deniedOutside("nowhere", 3, Edges::start, (x, s) -> change.of(x, 0, s), CHANGE);
        deniedOutside("nobody of ten", 9, told(TEN), (x, p) -> change.of(x, p, 1), CHANGE);
        deniedOutside("nowhere of 14", 13, told(TEN), (x, s) -> change.of(x, 9, s), CHANGE);
    }

    @Says({"One wishes to be at a STATION: true", "another wish; a MOVE to another STATION; a DAY; a YEAR"})
    void p12_wish() {
        isChanged(BornAboard::wish, 4);
    }

    @Says("false, refused (2), when there are none such, or he does already.")
    void p12_refused() {
        isNotChanged(BornAboard::wish, 4);
    }

    @Says({"One MOVES to a STATION: true", "another wish; a MOVE to another STATION; a DAY; a YEAR"})
    void p13_move() {
        isChanged(BornAboard::move, 3);
    }

    @Says("false, refused (2), when there are none such, or he is there already.")
    void p13_refused() {
        isNotChanged(BornAboard::move, 3);
    }

    // ---- promise 14

    @Says({"A DAY goes by: how many ARRIVED.", "ARRIVED is, who got off in it where he wished to be."})
    void p14_nobodyAndAllArrive() {
        BornAboard x = new BornAboard();
        check.is("without a line", x.day(), 0);
        check.is("an ACT all the same", x.has(8), 1);
        check.is("no YEAR", x.has(6), 0);
        BornAboard y = Check.of(Lines.stations(2) + Lines.train("t", 0, 12, "a after 1 b")
            + Lines.people(10, 1, "a", "a", "b", 1));
        y.hire(3, true);
        check.is("all ten, a hired one, too", y.day(), 10);
        check.is("all there", y.station(1, 1), 10);
        check.is("who is there already does not arrive", y.day(), 0);
        check.is("no DRAW", y.has(9), 1);
        check.is("acts", y.has(8), 3);
        y.undo();
        check.is("a DAY without a change undone", y.station(1, 1), 10);
        y.undo();
        check.is("the DAY undone", y.station(0, 1), 10);
        check.is("nobody is refused", y.status(2) + y.status(3), 0);
    }

    @Says("BEHIND A DAY people are where they got off last (else where they were).")
    void p14_whereTheyGotOffLast() {
        BornAboard x = Check.of(Lines.stations(4) + Lines.train("t", 0, 9, "a after 1 b after 1 c")
            + Lines.train("us", 9, 9, "c after 1 b after 1 d")
            + Lines.person("p", 1, "a", "a", "b", 0) + Lines.person("q", 1, "a", "d", "b", 0));
        check.is("carried past b twice", x.day(), 0);
        check.is("got off at d last", x.person(0, 3), 3);
        check.is("never rode", x.person(1, 3), 3);
        check.is("the wish stays", x.person(0, 4), 1);
    }

    // ---- promise 15

    @Says("n YEARS (1 .. 40), one ACT: how many died")
    void p15_oneTo40YearsAreOneAct() {
        BornAboard x = Check.of(Lines.SMALL);
        check.is("years(1)", x.years(1) >= 0, true);
        check.is("YEAR", x.has(6), 1);
        check.is("acts", x.has(8), 1);
        check.is("years(40)", x.years(40) >= 0, true);
        check.is("YEAR", x.has(6), 41);
        check.is("acts", x.has(8), 2);
        check.is("a DRAW for each in each YEAR", x.has(9), Draws.after(1, 3 * 41));
        x.undo();
        check.is("all 40 undone", x.has(6), 1);
        x.undo();
        check.is("YEAR", x.has(6), 0);
        check.is("age", x.person(0, 0), 30);
        BornAboard y = Check.of(Lines.SMALL);
        BornAboard z = Check.of(Lines.SMALL);
        int died = y.years(40);
        int apart = 0;
        for (int n = 0; n < 40; n++) {
            apart += z.years(1);
        }
        check.is("40 at once are 40 one by one", died, apart);
        for (int p = 0; p < 3; p++) {
            for (int what = 0; what < 7; what++) {
                check.is("person(" + p + ", " + what + ")", y.person(p, what), z.person(p, what));
            }
        }
    }

    @Says("NONE, refused (3), when n can't be, or beyond YEAR 9999.")
    void p15_otherNumbersOfYears() {
        for (int n : new int[] {0, -1, 41, 42, 257, 9999, MIN, MAX}) {
            refuses("years(" + n + ")", Edges::start, x -> x.years(n), YEARS);
        }
    }

    private static Calls inYear(int year) {
        return x -> {
            Check.tell(x, Lines.SMALL);
            Check.toYear(x, year);
            x.hire(1, true);
            Check.put(x, "station left;station righ");
        };
    }

    @Says({"NONE, refused (3), when n can't be, or beyond YEAR 9999.", "YEAR is one more then (9999 at most)."})
    void p15_noYearBeyond9999() {
        int[][] rows = {{9959, 40, 9999}, {9960, 39, 9999}, {9998, 1, 9999}, {9958, 40, 9998}, {9997, 1, 9998}};
        for (int[] row : rows) {
            BornAboard x = new BornAboard();
            inYear(row[0]).on(x);
            check.is("years(" + row[1] + ") in " + row[0], x.years(row[1]) >= 0, true);
            check.is("YEAR", x.has(6), row[2]);
        }
        int[][] beyond = {{9960, 40}, {9998, 2}, {9999, 1}, {9999, 40}, {9980, 20}, {9961, 39}};
        for (int[] row : beyond) {
            refuses("years(" + row[1] + ") in " + row[0], inYear(row[0]), x -> x.years(row[1]), YEARS);
        }
    }

    private static BornAboard aged(int age, int draw) {
        BornAboard x = Check.of("station a;" + Lines.person("p", age, "a", "a", "a", 0));
        x.seed(Draws.seedFor(draw));
        return x;
    }

    @Says("then one by one, by numbers, a DRAW of 100: is it below his age, he dies")
    void p15_aDrawBelowHisAge() {
        int[][] rows = {{0, 0, 0, 1}, {1, 0, 1, 0}, {1, 1, 0, 2}, {50, 49, 1, 0}, {50, 50, 0, 51}, {50, 51, 0, 51}, {98, 97,
            1, 0},
            {98, 98, 0, 99}, {99, 98, 1, 0}, {99, 99, 0, 99}, {99, 0, 1, 0}, {0, 99, 0, 1}};
        for (int[] row : rows) {
            BornAboard x = aged(row[0], row[1]);
            String what = "draw " + row[1] + " at age " + row[0];
            check.is(what + ": died", x.years(1), row[2]);
            check.is(what + ": age", x.person(0, 0), row[3]);
        }
    }

    @Says("if not, his age is one more (99 at most).")
    void p15_nobodyIsOlderThan99() {
        BornAboard x = aged(97, 97);
        int[] ages = {98, 99, 99, 99};
        for (int n = 0; n < 4; n++) {
            x.seed(Draws.seedFor(99));
            check.is("lives", x.years(1), 0);
            check.is("age", x.person(0, 0), ages[n]);
        }
    }

    @Says("then one by one, by numbers, a DRAW of 100: is it below his age, he dies")
    void p15_allDieAndNobodyDies() {
        BornAboard x = Check.of("station a;" + Lines.people(10, 0, "a", "a", "a", 0));
        check.is("nobody of age 0 dies", x.years(1), 0);
        check.is("age", x.person(9, 0), 1);
        BornAboard y = Check.of("station a;" + Lines.people(2, 99, "a", "a", "a", 0));
        y.seed(Draws.seedFor(98, 98));
        check.is("both die", y.years(1), 2);
        y = Check.of("station a;" + Lines.people(2, 50, "a", "a", "a", 0));
        y.seed(Draws.seedFor(49, 50));
        check.is("the first draw is the first one's", y.years(1), 1);
        check.is("the first one's child", y.person(0, 0), 0);
        check.is("the second one", y.person(1, 0), 51);
        y = Check.of("station a;" + Lines.people(2, 50, "a", "a", "a", 0));
        y.seed(Draws.seedFor(50, 49));
        check.is("the second draw is the second one's", y.years(1), 1);
        check.is("the first one", y.person(0, 0), 51);
        check.is("the second one's child", y.person(1, 0), 0);
    }

    @Says("he dies, and his child has his place: age 0, born where he is, its wish the STATION where he was born (between "
        + "two: its wish stays his), as he is else")
    void p15_aChildHasHisPlace() {
        String line = Lines.stations(4) + Lines.train("t", 0, 9, "a after 1 b");
        BornAboard x = Check.of(line + Lines.person("p", 99, "d", "a", "b", 5));
        x.hire(0, true);
        x.seed(Draws.seedFor(0));
        x.years(1);
        row("born where he got to", what -> x.person(0, what), 0, 1, NONE, 1, 3, 5, 1);
        BornAboard y = Check.of(line + Lines.person("p", 99, "d c", "a", "b", 5));
        y.seed(Draws.seedFor(0));
        y.years(1);
        row("between two: his wish, as it was turned", what -> y.person(0, what), 0, 1, NONE, 1, 0, 5, 0);
        BornAboard z = Check.of(line + Lines.person("p", 99, "d c", "c", "b", 0));
        z.seed(Draws.seedFor(0));
        z.years(1);
        row("between two: his wish", what -> z.person(0, what), 0, 2, NONE, 2, 1, 0, 0);
        BornAboard w = Check.of(line + Lines.person("p", 99, "c", "c", "b", 0));
        w.seed(Draws.seedFor(0));
        w.years(1);
        row("born where he is: the child is where it wishes to be", what -> w.person(0, what), 0, 2, NONE, 2, 2, 0, 0);
    }

    @Says("a YEAR: a DAY; then each who is where he wishes to be wishes to be where he was ahead of it")
    void p15_whoIsThereWishesBack() {
        BornAboard x = Check.of(Lines.stations(3) + Lines.train("t", 0, 9, "a after 1 b")
            + Lines.person("p", 0, "c", "a", "b", 0)
            + Lines.person("q", 0, "c", "a", "b", 1) + Lines.person("r", 0, "c", "b", "b", 0)
            + Lines.person("s", 0, "c", "a", "c", 0));
        x.hire(1, true);
        x.years(1);
        check.is("who got there", x.person(0, 4), 0);
        check.is("a hired one, too", x.person(1, 4), 0);
        check.is("who was there", x.person(2, 4), 1);
        check.is("who is not there", x.person(3, 4), 2);
        x.undo();
        x.day();
        check.is("a DAY turns no wish", x.person(0, 4), 1);
    }

    @Says("A DRAW of m: x (the seed) becomes (1103515245 x + 12345) mod 2 to the 31; floor(x / 64) mod m.")
    void p15_theSeedWrapsAt2ToThe31() {
        long[] seeds = {0, 1, 2, 3, 64, 12345, 1 << 30, MAX - 1, MAX};
        for (long seed : seeds) {
            long next = java.math.BigInteger.valueOf(1103515245).multiply(java.math.BigInteger.valueOf(seed))
                .add(java.math.BigInteger.valueOf(12345)).mod(java.math.BigInteger.ONE.shiftLeft(31)).longValue();
            int draw = (int) (next / 64 % 100);
            for (int age : new int[] {draw, Math.min(99, draw + 1)}) {
                BornAboard x = Check.of("station a;" + Lines.person("p", age, "a", "a", "a", 0));
                x.seed((int) seed);
                check.is("died by a draw of " + draw, x.years(1), draw < age ? 1 : 0);
                check.is("the seed behind " + seed, x.has(9), next);
            }
        }
        BornAboard y = Check.of("station a;" + Lines.people(10, 5, "a", "a", "a", 0));
        y.years(40);
        check.is("behind 400 draws", y.has(9), Draws.after(1, 400));
    }

    // ---- promise 16

    @Says({"The latest ACT is undone: all is as it was ahead of it (but the seed): true", "The last 20 ACTS can be undone."})
    void p16_the21stActIsTooFar() {
        for (int n : new int[] {19, 20, 21, 40, 41}) {
            BornAboard x = Check.of(Lines.SMALL);
            int[] wishes = new int[n + 1];
            wishes[0] = x.person(0, 4);
            for (int act = 1; act <= n; act++) {
                x.wish(0, (wishes[act - 1] + 1 + act % 3) % 4);
                wishes[act] = x.person(0, 4);
            }
            int can = Math.min(n, 20);
            for (int back = 1; back <= can; back++) {
                check.is("undo " + back + " of " + n, x.undo(), true);
                check.is("the wish then", x.person(0, 4), wishes[n - back]);
            }
            check.is("one more", x.undo(), false);
            check.is("the wish stays", x.person(0, 4), wishes[n - can]);
            check.is("refused", x.status(4), 1);
        }
    }

    @Says("false, refused (4), when none can be.")
    void p16_noneCanBeUndone() {
        denies("undo() of a told line", told(Lines.SMALL), BornAboard::undo, UNDO);
        denies("undo() of a new one", x -> { }, BornAboard::undo, UNDO);
        denies("undo() behind an image", x -> {
            Check.tell(x, Lines.SMALL);
            x.hire(1, true);
            Check.toYear(x, 7);
        }, BornAboard::undo, UNDO);
        denies("undo() behind an undo()", x -> {
            Check.tell(x, Lines.SMALL);
            x.hire(1, true);
            x.undo();
        }, BornAboard::undo, UNDO);
        denies("undo() behind what was refused", x -> {
            Check.tell(x, Lines.SMALL);
            x.hire(0, true);
            x.wish(0, 2);
            x.move(0, 0);
            x.years(0);
            x.hiring(0);
            x.seed(5);
        }, BornAboard::undo, UNDO);
    }

    /** Each kind of act is undone whole, and nothing else with it. */
    @Says("The latest ACT is undone: all is as it was ahead of it (but the seed): true")
    void p16_eachKindOfAct() {
        Calls[] acts = {x -> x.hire(1, false), x -> x.wish(0, 2), x -> x.move(1, 2), BornAboard::day, x -> x.hiring(4),
            x -> x.hiring(0)};
        for (int k = 0; k < acts.length; k++) {
            Calls act = acts[k];
            changesNothing("act " + k + " and undo()", Edges::start, x -> {
                act.on(x);
                check.is("an act", x.has(8), 7);
                check.is("undo()", x.undo(), true);
            }, NONE);
        }
        changesOnly("years and undo()", Edges::start, x -> {
            x.years(40);
            check.is("undo()", x.undo(), true);
        }, x -> x.seed((int) Draws.after(777, 120)), NONE);
    }

    @Says("The latest ACT is undone: all is as it was ahead of it (but the seed): true")
    void p16_actsBehindAnUndo() {
        BornAboard x = Check.of(Lines.SMALL);
        for (int n = 0; n < 25; n++) {
            x.wish(0, n % 4);
        }
        for (int n = 0; n < 5; n++) {
            x.undo();
        }
        check.is("acts", x.has(8), 15);
        check.is("the wish", x.person(0, 4), 3);
        for (int n = 0; n < 7; n++) {
            x.move(0, 1 + n % 3);
        }
        check.is("20 again", x.has(8), 20);
        for (int n = 0; n < 7; n++) {
            x.undo();
        }
        check.is("at a again", x.person(0, 3), 0);
        check.is("the wish", x.person(0, 4), 3);
        x.undo();
        check.is("the wish ahead of it", x.person(0, 4), 2);
        check.is("acts", x.has(8), 12);
    }

    // ---- promise 17

    @Says("The seed: true; false, refused (5), when it is below 0.")
    void p17_seedsFrom0On() {
        for (int seed : new int[] {0, 1, 2, 1 << 30, MAX - 1, MAX}) {
            BornAboard x = started();
            check.is("seed(" + seed + ")", x.seed(seed), true);
            check.is("it", x.has(9), seed);
            check.is("no ACT", x.has(8), 6);
            check.is("again", x.seed(seed), true);
            check.is("refused", x.status(5), 0);
        }
        for (int seed : new int[] {-1, -2, MIN + 1, MIN}) {
            denies("seed(" + seed + ")", Edges::start, x -> x.seed(seed), SEED);
        }
    }

    // ---- promise 24

    @Says({"The people of a HIRING are hired from now on, those of no other (an ACT, if that is otherwise): true",
        "HIRING is a set of people (bits) with a price above 0 who are hired (all others are not)"})
    void p24_nobodyAllAndTheSameAgain() {
        BornAboard x = Check.of(TEN);
        check.is("nobody, as it is", x.hiring(0), true);
        check.is("no ACT", x.has(8), 0);
        check.is("all ten", x.hiring(1023), true);
        check.is("hired", x.has(3), 10);
        check.is("an ACT", x.has(8), 1);
        check.is("all ten again", x.hiring(1023), true);
        check.is("no ACT", x.has(8), 1);
        check.is("the last alone", x.hiring(512), true);
        check.is("hired", x.has(3), 1);
        check.is("the last", x.person(9, 6), 1);
        check.is("the first alone", x.hiring(1), true);
        check.is("the first", x.person(0, 6), 1);
        check.is("not the last", x.person(9, 6), 0);
        check.is("nobody", x.hiring(0), true);
        check.is("hired", x.has(3), 0);
        check.is("acts", x.has(8), 4);
        check.is("refused", x.status(2), 0);
        changesNothing("the same again", Edges::start, y -> check.is("hiring(6)", y.hiring(6), true), NONE);
    }

    @Says("false, refused (2), when bits have somebody who is not there, or has no price.")
    void p24_refused() {
        for (int bits : new int[] {1, 3, 5, 7, 8, 14, 16, 1024, 1 << 16, 1 << 30, MIN, MIN | 6, -1, -2, MAX}) {
            denies("hiring(" + bits + ")", Edges::start, x -> x.hiring(bits), CHANGE);
        }
        for (int bits : new int[] {1024, 1025, 2047, 1 << 31, -1, -1024}) {
            denies("hiring(" + bits + ") of ten", told(TEN), x -> x.hiring(bits), CHANGE);
        }
        denies("hiring(1) of nobody", x -> { }, x -> x.hiring(1), CHANGE);
        check.is("hiring(0) of nobody", new BornAboard().hiring(0), true);
    }
}
