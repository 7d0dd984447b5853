/** The edges of promises 25 to 30: what one is worth, who was seen, what is dead, runs. */
public final class EdgesOfWorthTest extends Edges {
    private static final String ABC = Lines.stations(4) + Lines.train("t", 0, 12, "a after 1 b after 1 c");

    public static void main(String[] args) {
        new EdgesOfWorthTest().runAll();
    }

    // ---- promise 25

    @Says({"WORTH and 100; NONE when there is none such.",
        "WORTH of one: GOOD as people are hired now less GOOD, were he not there at all (neither is he counted then)."})
    void p25_theMostAndTheLeastThatOneIsWorth() {
        BornAboard all = Check.of(ABC + Lines.people(9, 1, "a", "a", "b", 0) + Lines.person("g", 1, "b", "a", "b", 0));
        check.is("all ten get there by him", all.worth(9), 110);
        check.is("one gets there himself", all.worth(0), 101);
        // g's stop at b makes all miss the train at c, which comes to d.
        BornAboard none = Check.of(Lines.stations(4) + Lines.train("t", 0, 12, "a after 1 b after 1 d after 1 c")
            + Lines.train("us", 3, 12, "c after 1 d")
            + Lines.people(9, 1, "a", "a", "d", 0) + Lines.person("g", 1, "b", "a", "d", 0));
        check.is("nine get there without him", none.worth(9), 91);
        check.is("nothing", none.worth(0), 100);
        BornAboard hired = Check.of(ABC + Lines.people(9, 1, "a", "a", "b", 0) + Lines.person("g", 1, "b", "a", "b", 5));
        hired.hire(9, true);
        check.is("nine by a hired one", hired.worth(9), 109);
        hired.move(9, 1);
        check.is("a hired one who is there counts not", hired.worth(9), 100);
        hired.hire(9, false);
        check.is("one who is there", hired.worth(9), 101);
        BornAboard aside = Check.of(ABC + Lines.person("p", 1, "a", "a", "b", 0) + Lines.person("g", 1, "b", "a", "c", 0)
            + Lines.person("z", 1, "a", "d", "d", 0) + Lines.person("y", 1, "a", "d", "a", 0));
        check.is("who brings another there", aside.worth(1), 102);
        check.is("who gets off on the way", aside.worth(0), 101);
        check.is("who stays where he wishes to be", aside.worth(2), 101);
        check.is("who stays where he does not", aside.worth(3), 100);
        check.is("the seat he takes", Check.of(Lines.stations(2) + Lines.train("t", 0, 1, "a after 1 b")
            + Lines.people(2, 1, "a", "a", "b", 0)).worth(0), 100);
    }

    @Says("NONE when there is none such.")
    void p25_noneSuch() {
        noneOutside("worth of three", 2, Check.of(Lines.SMALL)::worth);
        noneOutside("worth of ten", 9, Check.of(FullTest.full())::worth);
        check.is("of a new one", new BornAboard().worth(0), NONE);
        onlyAsks("worth", x -> {
            x.worth(0);
            x.worth(3);
        });
    }

    // ---- promise 26

    @Says({"BEAR: the STATION (what 0), GOOD then (1). NONE when there is none such, or for others.",
        "the STATION where one, had he been born there, would make GOOD greatest (others as they are); of like ones the "
            + "first."})
    void p26_theFirstAndTheLastStation() {
        String line = Lines.stations(14) + Lines.train("t", 0, 12, "a after 1 n after 1 m after 1 l");
        String p = Lines.person("p", 1, "a", "a", "l", 0);
        BornAboard last = Check.of(line + p + Lines.people(9, 1, "a", "a", "n", 0));
        row("the last one", what -> last.bear(0, what), 13, 10);
        row("one of those who wish it", what -> last.bear(9, what), 13, 10);
        BornAboard both = Check.of(line + p + Lines.person("q", 1, "a", "a", "n", 0)
            + Lines.person("r", 1, "a", "a", "m", 0));
        row("of like ones the first", what -> both.bear(0, what), 12, 2);
        BornAboard any = Check.of(line + p);
        row("wherever: the first", what -> any.bear(0, what), 0, 1);
        BornAboard nowhere = Check.of(Lines.stations(14) + Lines.people(10, 1, "n", "a", "b", 0));
        row("GOOD is 0 anyway", what -> nowhere.bear(9, what), 0, 0);
        BornAboard between = Check.of(Lines.stations(3) + Lines.train("t", 0, 9, "a after 1 b after 1 c")
            + Lines.person("p", 1, "a b", "a", "b", 0));
        row("who was born between", what -> between.bear(0, what), 1, 1);
        row("he is as he was", what -> between.person(0, what), 1, 0, 1, 0, 1, 0, 0);
    }

    @Says("NONE when there is none such, or for others.")
    void p26_noneSuch() {
        BornAboard x = Check.of(Lines.SMALL);
        BornAboard y = Check.of(FullTest.full());
        for (int what = 0; what < 2; what++) {
            int of = what;
            noneOutside("bear of three", 2, p -> x.bear(p, of));
            noneOutside("bear of ten", 9, p -> y.bear(p, of));
        }
        noneOutside("what", 1, what -> x.bear(0, what));
        noneOutside("what of the tenth", 1, what -> y.bear(9, what));
        onlyAsks("bear", z -> {
            z.bear(0, 0);
            z.bear(1, 1);
            z.bear(3, 0);
            z.bear(0, 2);
        });
    }

    // ---- promise 27

    @Says({"STAY; NONE when there is none such.",
        "STAY: GOOD, had one never got off but at last STATIONS (his own wish counts as before)."})
    void p27_stay() {
        // p, born at c, gets off at b and takes the stop along that nine need.
        BornAboard x = Check.of(Lines.stations(4) + Lines.train("t", 0, 12, "a after 1 b after 1 c after 1 d")
            + Lines.person("p", 1, "c", "a", "b", 0)
            + Lines.people(8, 1, "a", "a", "c", 0) + Lines.person("g", 1, "b", "a", "d", 0));
        check.is("GOOD", x.whole(5), 2);
        check.is("had he stayed: all but he", x.stay(0), 9);
        check.is("who gets off at the last one does so still", x.stay(9), 2);
        BornAboard tenth = Check.of(Lines.stations(4) + Lines.train("t", 0, 12, "a after 1 b after 1 c after 1 d")
            + Lines.person("g", 1, "b", "a", "d", 0)
            + Lines.people(8, 1, "a", "a", "c", 0) + Lines.person("p", 1, "c", "a", "b", 0));
        check.is("had the tenth stayed", tenth.stay(9), 9);
        check.is("GOOD as before", tenth.whole(5), 2);
        BornAboard last = Check.of(ABC + Lines.person("p", 1, "b", "a", "b", 0));
        check.is("he gets there", last.whole(5), 1);
        check.is("his own wish counts", last.stay(0), 0);
        last.wish(0, 2);
        check.is("at the last one he gets off", last.stay(0), 1);
        last.move(0, 2);
        check.is("who is there already", last.stay(0), 1);
        noneOutside("stay of three", 2, Check.of(Lines.SMALL)::stay);
        noneOutside("stay of ten", 9, Check.of(FullTest.full())::stay);
        onlyAsks("stay", y -> {
            y.stay(0);
            y.stay(3);
        });
    }

    // ---- promise 28

    private void seenAre(BornAboard x, int bits, int... due) {
        row("seen(0, " + bits + ")", what -> x.seen(0, bits, what), due);
    }

    @Says({"SEEN of a TRAIN: how many sets (what 0), people who are in all of them, as bits (1; 0 without sets), in some "
        + "(2).",
        "sets of people (bits; any, wherever they are), by whose births (they go all the way) it would STOP just there."})
    void p28_fromNoSetTo1024() {
        String eight = Lines.stations(9) + Lines.train("t", 0, 1,
            "a after 1 b after 1 c after 1 d after 1 e after 1 f after 1 g after 1 h");
        BornAboard nobody = Check.of(eight);
        seenAre(nobody, 129, 1, 0, 0);
        seenAre(nobody, 131, 0, 0, 0);
        seenAre(nobody, 255, 0, 0, 0);
        BornAboard ends = Check.of(eight + Lines.people(5, 1, "a", "i", "i", 0) + Lines.person("q", 1, "h", "i", "i", 0)
            + Lines.person("r", 1, "i", "i", "i", 0) + Lines.person("s", 1, "b c", "i", "i", 0)
            + Lines.person("o", 1, "a", "i", "i", 0)
            + Lines.person("n", 1, "h", "a", "h", 0));
        seenAre(ends, 129, 1024, 0, 1023);
        seenAre(ends, 131, 0, 0, 0);
        BornAboard all = Check.of(eight + Lines.people(10, 1, "b", "i", "i", 0));
        seenAre(all, 129, 1, 0, 0);
        seenAre(all, 131, 1023, 0, 1023);
        seenAre(all, 133, 0, 0, 0);
        seenAre(all, 193, 0, 0, 0);
        BornAboard one = Check.of(eight + Lines.people(9, 1, "i", "a", "h", 0) + Lines.person("q", 1, "g", "i", "i", 0));
        seenAre(one, 129, 512, 0, 511);
        seenAre(one, 193, 512, 512, 1023);
        seenAre(one, 255, 0, 0, 0);
        BornAboard each = Check.of(eight + Lines.person("pb", 1, "b", "i", "i", 0) + Lines.person("pc", 1, "c", "i", "i", 0)
            + Lines.person("pd", 1, "d", "i", "i", 0) + Lines.person("pe", 1, "e", "i", "i", 0)
            + Lines.person("pf", 1, "f", "i", "i", 0)
            + Lines.person("pg", 1, "g", "i", "i", 0));
        for (int bits = 129; bits < 256; bits += 2) {
            seenAre(each, bits, 1, bits / 2 % 64, bits / 2 % 64);
        }
        seenAre(Check.of(Lines.stations(2) + Lines.train("t", 0, 1, "a after 1 b")
            + Lines.people(10, 1, "a", "a", "b", 0)), 3, 1024, 0, 1023);
    }

    @Says({"NONE when there is none such, SEEN can't be (bits beyond its STATIONS, without the first or the last), or for "
        + "others.",
        "SEEN of a TRAIN are STOPS by places among its STATIONS (bits; the first and the last are always set)"})
    void p28_whatCannotBeSeen() {
        BornAboard x = Check.of(Lines.SMALL);
        BornAboard y = Check.of(FullTest.full());
        for (int what = 0; what < 3; what++) {
            for (int bits : new int[] {0, 1, 2, 3, 4, 6, 8, 9, 10, 13, 15, 5 | 256, 5 | 65536, 5 | 1 << 30, 5 | MIN, MIN, MAX,
                -1, -3}) {
                check.is("seen(0, " + bits + ", " + what + ") of 3", x.seen(0, bits, what), NONE);
            }
            for (int bits : new int[] {0, 1, 2, 4, 5, 7, 3 | 256, 3 | MIN, MIN, MAX, -1}) {
                check.is("seen(1, " + bits + ", " + what + ") of 2", x.seen(1, bits, what), NONE);
            }
            for (int bits : new int[] {1, 127, 128, 254, 256, 257, 385, 511, 129 | MIN, 255 | 1 << 30, -1}) {
                check.is("seen(5, " + bits + ", " + what + ") of 8", y.seen(5, bits, what), NONE);
            }
            int of = what;
            noneOutside("TRAIN of 2", 1, t -> x.seen(t, t == 0 ? 5 : 3, of));
            noneOutside("TRAIN of 6", 5, t -> y.seen(t, 129, of));
        }
        noneOutside("what", 2, what -> x.seen(0, 5, what));
        noneOutside("what of the other one", 2, what -> x.seen(1, 3, what));
        check.is("5 of 3", x.seen(0, 5, 0), 4);
        check.is("7 of 3", x.seen(0, 7, 0), 4);
        check.is("3 of 2", x.seen(1, 3, 0), 8);
        onlyAsks("seen", z -> {
            z.seen(0, 5, 0);
            z.seen(0, 1, 0);
            z.seen(2, 3, 0);
        });
    }

    // ---- promise 29

    @Says({"The k-th DEAD STATION; NONE when there is none such.", "A STATION is DEAD, if nobody was born there."})
    void p29_noneSomeAndAllAreDead() {
        BornAboard all = Check.of(Lines.stations(14));
        row("all of 14", all::dead, 0, 1, 2, 3, 4, 5, 6, 7, 8, 9, 10, 11, 12, 13, NONE, NONE);
        noneOutside("dead", 13, all::dead);
        BornAboard ends = Check.of(Lines.stations(4) + Lines.person("p", 1, "b", "a", "d", 0)
            + Lines.person("q", 1, "c", "a", "a", 0)
            + Lines.person("r", 1, "a d", "a", "a", 0));
        row("the ends", ends::dead, 0, 3, NONE);
        noneOutside("dead", 1, ends::dead);
        BornAboard middle = Check.of(Lines.stations(3) + Lines.person("p", 1, "a", "b", "b", 0)
            + Lines.person("q", 1, "c", "b", "b", 0));
        row("the middle", middle::dead, 1, NONE);
        BornAboard none = Check.of(Lines.stations(1) + Lines.person("p", 1, "a", "a", "a", 0));
        row("none", none::dead, NONE, NONE);
        noneOutside("dead of a new one", 0, k -> new BornAboard().dead(k));
        onlyAsks("dead", x -> {
            x.dead(0);
            x.dead(4);
        });
    }

    // ---- promise 30

    private static BornAboard aged(int age, String born, int seed) {
        BornAboard x = Check.of(Lines.stations(2) + Lines.person("p", age, born, "b", "b", 0));
        x.seed(seed);
        return x;
    }

    @Says({"n RUNS (1 .. 20) of some YEARS (1 .. 20): in how many a STATION is DEAD at the end (what 0), how many died in "
        + "all together (1).",
        "(Each call draws on.)", "RUNS: each some YEARS from now on (fewer beyond YEAR 9999); all is as it was then, but "
            + "the seed."})
    void p30_1To20RunsOf1To20Years() {
        for (int[] row : new int[][] {{1, 1}, {1, 20}, {20, 1}, {20, 20}, {2, 3}}) {
            for (int what = 0; what < 2; what++) {
                BornAboard x = aged(60, "a", 5);
                int answer = x.runs(row[0], row[1], 0, what);
                check.is("runs(" + row[0] + ", " + row[1] + ")", answer, toldByYears(row[0], row[1], what));
                check.is("draws", x.has(9), Draws.after(5, row[0] * row[1]));
                row("all is as it was", of -> x.person(0, of), 60, 0, NONE, 1, 1, 0, 0);
                check.is("YEAR", x.has(6), 0);
                check.is("no ACT", x.has(8), 0);
            }
        }
    }

    /** The same by years and undo, which leaves the seed as runs do. */
    private static int toldByYears(int n, int years, int what) {
        BornAboard x = aged(60, "a", 5);
        int dead = 0;
        int died = 0;
        for (int run = 0; run < n; run++) {
            died += x.years(years);
            dead += x.station(0, 0) == 0 ? 1 : 0;
            x.undo();
        }
        return what == 0 ? dead : died;
    }

    @Says("in how many a STATION is DEAD at the end (what 0), how many died in all together (1)")
    void p30_noneAndAll() {
        BornAboard x = aged(0, "a", 5);
        check.is("nobody of age 0 dies in a YEAR", x.runs(20, 1, 0, 1), 0);
        check.is("a is dead in none", x.runs(20, 1, 0, 0), 0);
        check.is("b is dead in all", x.runs(20, 1, 1, 0), 20);
        BornAboard y = aged(99, "a", Draws.seedFor(98, 98, 98));
        check.is("he dies in each", y.runs(3, 1, 1, 1), 3);
        BornAboard z = aged(99, "a", Draws.seedFor(98, 98, 98));
        check.is("a is dead in each", z.runs(3, 1, 0, 0), 3);
        BornAboard w = aged(99, "a", Draws.seedFor(99, 98, 99));
        check.is("he dies in one", w.runs(3, 1, 0, 0), 1);
    }

    @Says("NONE when something can't be.")
    void p30_whatCannotBe() {
        Calls asks = x -> {
            for (int what = 0; what < 2; what++) {
                int of = what;
                noneOutside("n", 20, n -> x.runs(n, 1, 0, of));
                noneOutside("YEARS", 20, years -> x.runs(1, years, 0, of));
                noneOutside("STATION", 3, s -> x.runs(1, 1, s, of));
                check.is("0 RUNS", x.runs(0, 1, 0, what), NONE);
                check.is("0 YEARS", x.runs(1, 0, 0, what), NONE);
                check.is("both", x.runs(0, 0, 0, what), NONE);
            }
            noneOutside("what", 1, what -> x.runs(1, 1, 0, what));
        };
        onlyAsks("runs that can't be", asks);
        check.is("the last STATION", Check.of(Lines.stations(14)).runs(20, 20, 13, 0), 20);
        noneOutside("STATION of 14", 13, s -> Check.of(Lines.stations(14)).runs(1, 1, s, 0));
        changesOnly("runs that can be", Edges::start, x -> x.runs(20, 20, 3, 1), x -> x.seed((int) Draws.after(777, 1200)),
            NONE);
    }

    @Says("(fewer beyond YEAR 9999)")
    void p30_fewerYearsBeyond9999() {
        int[][] rows = {{9979, 20, 20}, {9980, 20, 19}, {9998, 20, 1}, {9998, 1, 1}, {9999, 1, 0}, {9999, 20, 0}, {9989, 10,
            10}, {9990, 10, 9}};
        for (int[] row : rows) {
            BornAboard x = aged(50, "a", 9);
            Check.toYear(x, row[0]);
            int died = x.runs(2, row[1], 0, 1);
            check.is("draws of " + row[1] + " YEARS in " + row[0], x.has(9), Draws.after(9, 2 * row[2]));
            check.is("it can be", died >= 0, true);
            check.is("YEAR", x.has(6), row[0]);
        }
        BornAboard end = aged(99, "a", 9);
        Check.toYear(end, 9999);
        check.is("nobody dies", end.runs(20, 20, 0, 1), 0);
        check.is("a is as now", end.runs(20, 20, 0, 0), 0);
        check.is("b is as now", end.runs(20, 20, 1, 0), 20);
    }
}
