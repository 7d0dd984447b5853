/** The edges of promises 6 to 10: what a line and its people have. */
public final class EdgesOfStateTest extends Edges {
    private static final String FULL = FullTest.full();

    public static void main(String[] args) {
        new EdgesOfStateTest().runAll();
    }

    // ---- promise 6

    @Says("How many there are: 0 STATIONS, 1 TRAINS, 2 PEOPLE, 3 hired ones, 4 COIN of these, 5 minutes that a STOP costs, "
        + "6 YEAR, "
        + "7 DEAD STATIONS, 8 ACTS that can be undone, 9 the seed, 10 people who are where they wish to be now. NONE for "
        + "others.")
    void p06_others() {
        noneOutside("has of a new one", 10, new BornAboard()::has);
        noneOutside("has", 10, started()::has);
        noneOutside("has of a full one", 10, Check.of(FULL)::has);
        onlyAsks("has", x -> {
            for (int what = -1; what <= 11; what++) {
                x.has(what);
            }
        });
    }

    @Says("0 STATIONS, 1 TRAINS, 2 PEOPLE")
    void p06_noneAndAsManyAsThereCanBe() {
        BornAboard x = Check.of(FULL);
        check.is("STATIONS", x.has(0), 14);
        check.is("TRAINS", x.has(1), 6);
        check.is("PEOPLE", x.has(2), 10);
        Check.tell(x, "stop 5;");
        row("none", x::has, 0, 0, 0, 0, 0, 5, 0, 0, 0, 1, 0);
    }

    @Says({"3 hired ones, 4 COIN of these", "People are not hired at first, YEAR is 0."})
    void p06_hiredOnesAndCoin() {
        BornAboard x = Check.of(Lines.stations(1) + Lines.people(10, 1, "a", "a", "a", 99));
        check.is("at first", x.has(3), 0);
        check.is("COIN at first", x.has(4), 0);
        for (int p = 9; p >= 0; p--) {
            x.hire(p, true);
            check.is("hired", x.has(3), 10 - p);
            check.is("COIN", x.has(4), 99 * (10 - p));
        }
        x.hiring(512);
        check.is("the last one alone", x.has(3), 1);
        check.is("COIN", x.has(4), 99);
        x.hire(9, false);
        check.is("nobody", x.has(3), 0);
        check.is("COIN", x.has(4), 0);
    }

    @Says({"6 YEAR", "People are not hired at first, YEAR is 0."})
    void p06_yearIs0To9999() {
        BornAboard x = Check.of(Lines.SMALL);
        check.is("at first", x.has(6), 0);
        x.day();
        check.is("a DAY is no YEAR", x.has(6), 0);
        x.years(1);
        check.is("one", x.has(6), 1);
        Check.toYear(x, 9998);
        check.is("9998", x.has(6), 9998);
        x.years(1);
        check.is("9999", x.has(6), 9999);
    }

    @Says({"7 DEAD STATIONS", "A STATION is DEAD, if nobody was born there."})
    void p06_deadStationsNoneSomeAll() {
        check.is("all of 14", Check.of(Lines.stations(14)).has(7), 14);
        check.is("all but one", Check.of(Lines.stations(14) + Lines.people(10, 1, "n", "a", "a", 0)).has(7), 13);
        check.is("none", Check.of("station a;" + Lines.person("p", 1, "a", "a", "a", 0)).has(7), 0);
        check.is("none of two", Check.of(Lines.stations(2) + Lines.person("p", 1, "a", "a", "a", 0)
            + Lines.person("q", 1, "b", "a", "a", 0)).has(7), 0);
        check.is("between two is at neither", Check.of(Lines.stations(3)
            + Lines.person("p", 1, "a b", "a", "a", 0)).has(7), 3);
        check.is("where one is, or wishes to be, does not count",
            Check.of(Lines.stations(3) + Lines.person("p", 1, "a", "b", "c", 0)).has(7), 2);
    }

    @Says({"8 ACTS that can be undone", "The last 20 ACTS can be undone."})
    void p06_actsAre0To20() {
        BornAboard x = Check.of(Lines.SMALL);
        check.is("at first", x.has(8), 0);
        for (int n = 1; n <= 45; n++) {
            x.wish(0, n % 4);
            check.is("behind " + n, x.has(8), Math.min(n, 20));
        }
        for (int n = 19; n >= 0; n--) {
            x.undo();
            check.is("undone to " + n, x.has(8), n);
        }
        x.undo();
        check.is("no fewer", x.has(8), 0);
    }

    @Says("9 the seed")
    void p06_theSeedFrom0On() {
        BornAboard x = new BornAboard();
        check.is("at first", x.has(9), 1);
        for (int seed : new int[] {0, 1, 2, MAX - 1, MAX}) {
            x.seed(seed);
            check.is("seed", x.has(9), seed);
        }
    }

    @Says("10 people who are where they wish to be now")
    void p06_nobodyAndAllAreWhereTheyWishToBe() {
        BornAboard x = Check.of(Lines.stations(2) + Lines.people(10, 1, "a", "a", "b", 1));
        check.is("nobody", x.has(10), 0);
        for (int p = 0; p < 10; p++) {
            x.wish(p, 0);
            check.is("so many", x.has(10), p + 1);
        }
        x.hire(9, true);
        check.is("a hired one, too", x.has(10), 10);
        x.move(9, 1);
        check.is("one moved", x.has(10), 9);
    }

    // ---- promise 7

    @Says({"Letter k (0 .. 5) of the NAME of a STATION (kind 0), a TRAIN (1), one of the PEOPLE (2): 1 .. 26; 0 behind it",
        "NONE when there is none such."})
    void p07_lettersOfEachKind() {
        BornAboard x = Check.of("station a;station zyxwvu;train bz from 0 seats 1 calls a after 1 zyxwvu;"
            + Lines.person("qrs", 1, "a", "a", "a", 0));
        row("one letter", k -> x.letter(0, 0, k), 1, 0, 0, 0, 0, 0);
        row("six letters", k -> x.letter(0, 1, k), 26, 25, 24, 23, 22, 21);
        row("a TRAIN's", k -> x.letter(1, 0, k), 2, 26, 0, 0, 0, 0);
        row("a person's", k -> x.letter(2, 0, k), 17, 18, 19, 0, 0, 0);
        for (int kind = 0; kind < 3; kind++) {
            int of = kind;
            noneOutside("letter k of kind " + kind, 5, k -> x.letter(of, 0, k));
        }
        noneOutside("letter k of six", 5, k -> x.letter(0, 1, k));
        noneOutside("kind", 2, kind -> x.letter(kind, 0, 0));
        noneOutside("kind, behind the name", 2, kind -> x.letter(kind, 0, 5));
        noneOutside("STATION", 1, s -> x.letter(0, s, 0));
        noneOutside("TRAIN", 0, t -> x.letter(1, t, 0));
        noneOutside("person", 0, p -> x.letter(2, p, 5));
        onlyAsks("letter", y -> y.letter(3, 0, 0));
    }

    @Says("NONE when there is none such.")
    void p07_theLastOfEachKind() {
        BornAboard x = Check.of(FULL);
        check.is("STATION 13", x.letter(0, 13, 1), 14);
        check.is("TRAIN 5", x.letter(1, 5, 1), 6);
        check.is("person 9", x.letter(2, 9, 1), 10);
        noneOutside("STATION", 13, s -> x.letter(0, s, 0));
        noneOutside("TRAIN", 5, t -> x.letter(1, t, 0));
        noneOutside("person", 9, p -> x.letter(2, p, 0));
        Check.tell(x, "station a;");
        check.is("of a line that went", x.letter(0, 1, 0), NONE);
        check.is("its TRAIN", x.letter(1, 0, 0), NONE);
        check.is("its person", x.letter(2, 0, 0), NONE);
    }

    // ---- promise 8

    @Says({"Of a STATION: 0 people born there, as bits, 1 how many are there, 2 how many wish to be there, 3 how many "
        + "TRAINS call there.",
        "NONE when there is none such, or for others."})
    void p08_nobodyAndAllAtAStation() {
        StringBuilder text = new StringBuilder(Lines.stations(14) + Lines.people(10, 1, "n", "m", "l", 0));
        for (int t = 0; t < 6; t++) {
            text.append(Lines.train("t" + Lines.place(t), 0, 1, t % 2 == 0 ? "k after 1 j" : "a after 1 k"));
        }
        BornAboard x = Check.of(text.toString());
        row("all born there", what -> x.station(13, what), 1023, 0, 0, 0);
        row("all there", what -> x.station(12, what), 0, 10, 0, 0);
        row("all wish it", what -> x.station(11, what), 0, 0, 10, 0);
        row("all TRAINS", what -> x.station(10, what), 0, 0, 0, 6);
        row("a TRAIN's last", what -> x.station(9, what), 0, 0, 0, 3);
        row("a TRAIN's first", what -> x.station(0, what), 0, 0, 0, 3);
        row("nothing", what -> x.station(1, what), 0, 0, 0, 0);
        for (int what = 0; what < 4; what++) {
            int of = what;
            noneOutside("STATION", 13, s -> x.station(s, of));
        }
        noneOutside("what", 3, what -> x.station(0, what));
        noneOutside("what of the last one", 3, what -> x.station(13, what));
        onlyAsks("station", y -> y.station(4, 0));
    }

    @Says("0 people born there, as bits")
    void p08_bornBetweenIsBornAtNeither() {
        BornAboard x = Check.of(Lines.stations(2) + Lines.person("p", 1, "a b", "a", "a", 0)
            + Lines.person("q", 1, "b", "a", "a", 0)
            + Lines.person("r", 1, "b a", "b", "a", 0));
        check.is("at a", x.station(0, 0), 0);
        check.is("at b", x.station(1, 0), 2);
    }

    // ---- promise 9

    @Says({"Of a TRAIN: 0 its minute, 1 seats, 2 how many STATIONS, 10 and k its k-th STATION, 20 and k (1 and on) minutes "
        + "to it from the one ahead.",
        "NONE when there is none such, or for others."})
    void p09_aTrainOf2AndOf8Stations() {
        BornAboard x = Check.of(Lines.stations(14) + Lines.train("t", 0, 1, "n after 99 a")
            + Lines.train("us", 1439, 12, "h after 1 g after 2 f after 3 e after 4 d after 5 c after 6 b after 99 a"));
        int[] two = {0, 1, 2, NONE, NONE, NONE, NONE, NONE, NONE, NONE, 13, 0, NONE, NONE, NONE, NONE, NONE, NONE, NONE, NONE,
            NONE, 99,
            NONE, NONE, NONE, NONE, NONE, NONE, NONE, NONE, NONE, NONE, NONE, NONE};
        int[] eight = {1439, 12, 8, NONE, NONE, NONE, NONE, NONE, NONE, NONE, 7, 6, 5, 4, 3, 2, 1, 0, NONE, NONE, NONE, 1, 2,
            3, 4, 5, 6,
            99, NONE, NONE, NONE, NONE, NONE, NONE};
        row("what of two", what -> x.train(0, what), two);
        row("what of eight", what -> x.train(1, what), eight);
        noneOutside("what of two", 21, what -> x.train(0, what));
        noneOutside("what of eight", 27, what -> x.train(1, what));
        for (int what : new int[] {0, 1, 2, 10, 11, 21}) {
            noneOutside("TRAIN", 1, t -> x.train(t, what));
        }
        noneOutside("TRAIN of six", 5, t -> Check.of(FULL).train(t, 0));
        onlyAsks("train", y -> y.train(2, 0));
    }

    // ---- promise 10

    @Says({"Of one of the PEOPLE: 0 age, 1 where born (the first STATION), 2 the second one (NONE without), 3 where now, 4 "
        + "wish, 5 price, 6 whether hired.",
        "NONE when there is none such, or for others."})
    void p10_peopleAtTheEdges() {
        BornAboard x = Check.of(Lines.stations(14) + Lines.person("p", 0, "a", "n", "m", 0)
            + Lines.person("q", 99, "n a", "a", "n", 99)
            + Lines.person("r", 1, "b n", "b", "b", 1));
        row("p", what -> x.person(0, what), 0, 0, NONE, 13, 12, 0, 0);
        row("q", what -> x.person(1, what), 99, 13, 0, 0, 13, 99, 0);
        row("r", what -> x.person(2, what), 1, 1, 13, 1, 1, 1, 0);
        x.hire(1, true);
        row("q hired", what -> x.person(1, what), 99, 13, 0, 0, 13, 99, 1);
        for (int what = 0; what < 7; what++) {
            int of = what;
            noneOutside("person", 2, p -> x.person(p, of));
        }
        for (int p = 0; p < 3; p++) {
            int of = p;
            noneOutside("what", 6, what -> x.person(of, what));
        }
        onlyAsks("person", y -> y.person(3, 0));
    }

    @Says("NONE when there is none such, or for others.")
    void p10_theTenthPerson() {
        BornAboard x = Check.of(FULL);
        check.is("age of the tenth", x.person(9, 0), 81);
        noneOutside("person of ten", 9, p -> x.person(p, 0));
    }
}
