import java.util.Arrays;

/** The edges of promises 18 to 20 and 31 to 34: a day, by whom a train stops, where one is, days on end. */
public final class EdgesOfDaysTest extends Edges {
    private static final String FULL = FullTest.full();
    /** Eight people wait at c for one seat a day; behind 30 days the last one has settled, the 31st changes nothing. */
    private static final String SLOW = Lines.stations(8) + Lines.train("ta", 17, 2, "b after 5 g after 5 c")
        + Lines.train("tb", 6, 3, "a after 5 d after 5 g after 5 b") + Lines.train("tc", 14, 1, "b after 5 g after 5 d")
        + Lines.train("td", 7, 1, "c after 5 e after 5 g after 5 a") + Lines.train("te", 23, 3, "d after 5 g")
        + Lines.person("pa", 1, "b", "c", "g", 0) + Lines.person("pb", 1, "c", "c", "a", 0)
        + Lines.person("pc", 1, "d", "c", "g", 0)
        + Lines.person("pd", 1, "c", "c", "g", 0) + Lines.person("pe", 1, "d", "c", "g", 0)
        + Lines.person("pf", 1, "d", "c", "g", 0)
        + Lines.person("pg", 1, "e", "c", "g", 0) + Lines.person("ph", 1, "d", "c", "g", 0);

    public static void main(String[] args) {
        new EdgesOfDaysTest().runAll();
    }

    interface AtCall {
        int of(BornAboard x, int train, int k);
    }

    /** Asked of a train at its k-th station: none such on a small line and on one with as much as there can be. */
    private void noneSuchCall(AtCall ask) {
        BornAboard x = Check.of(Lines.SMALL);
        noneOutside("STATION of 3", 2, k -> ask.of(x, 0, k));
        noneOutside("STATION of 2", 1, k -> ask.of(x, 1, k));
        noneOutside("TRAIN of 2", 1, t -> ask.of(x, t, 0));
        BornAboard y = Check.of(FULL);
        noneOutside("STATION of 8", 7, k -> ask.of(y, 5, k));
        noneOutside("TRAIN of 6", 5, t -> ask.of(y, t, 0));
        noneOutside("TRAIN of 6, at its last one", 5, t -> ask.of(y, t, 7));
        check.is("the last STATION of the last TRAIN", ask.of(y, 5, 7) != NONE, true);
    }

    private void stopsAre(BornAboard x, int train, int k, int... due) {
        row("stops(" + train + ", " + k + ")", what -> x.stops(train, k, what), due);
    }

    private void faresAre(BornAboard x, int person, int... due) {
        row("fares(" + person + ")", what -> x.fares(person, what), due);
    }

    // ---- promise 18

    @Says({"Of a TRAIN at its k-th STATION: 0 whether it STOPS (1, 0), 1 the minute in which it comes, 2 how many get off, "
        + "3 how many get on, "
        + "4 how many are aboard behind it, 5 whether it made a STOP BETWEEN ahead of it.",
        "NONE when there are none such, or for others."})
    void p18_noneSuch() {
        for (int what = 0; what < 6; what++) {
            int of = what;
            noneSuchCall((x, t, k) -> x.stops(t, k, of));
        }
        noneOutside("what", 5, what -> Check.of(Lines.SMALL).stops(0, 0, what));
        noneOutside("what at the last one", 5, what -> Check.of(Lines.SMALL).stops(1, 1, what));
        onlyAsks("stops", z -> {
            z.stops(0, 0, 0);
            z.stops(0, 3, 0);
            z.stops(2, 0, 0);
            z.stops(0, 0, 6);
        });
    }

    @Says("each TRAIN comes to its STATIONS one by one, to the first one in its minute (from).")
    void p18_minutesFrom0AndBeyond1439() {
        BornAboard x = Check.of(Lines.stations(3) + Lines.train("t", 0, 1, "a after 1 b")
            + Lines.train("us", 1439, 1, "a after 99 b after 99 c"));
        check.is("in minute 0", x.stops(0, 0, 1), 0);
        check.is("a minute behind", x.stops(0, 1, 1), 1);
        check.is("in minute 1439", x.stops(1, 0, 1), 1439);
        check.is("beyond it", x.stops(1, 1, 1), 1538);
        check.is("and on", x.stops(1, 2, 1), 1637);
        check.is("the last minute", x.whole(4), 1637);
    }

    /** Six stops at stations and four between them, as dear as can be. */
    private static String longest() {
        StringBuilder text = new StringBuilder(Lines.stations(8) + "stop 30;train t from 1439 seats 12 calls a");
        for (int k = 1; k < 8; k++) {
            text.append(" after 99 ").append(Lines.place(k));
        }
        text.append(';');
        for (int p = 0; p < 6; p++) {
            text.append(Lines.person("p" + Lines.place(p), 1, "" + Lines.place(p + 1), "a", "h", 0));
        }
        for (int p = 0; p < 4; p++) {
            text.append(Lines.person("q" + Lines.place(p), 1, Lines.place(p) + " " + Lines.place(p + 1), "a", "h", 0));
        }
        return text.toString();
    }

    @Says({"so many minutes (stop) later from another one", "stop more, if somebody aboard was born between these two"})
    void p18_aLongDay() {
        BornAboard x = Check.of(longest());
        int[] minutes = {1439, 1568, 1727, 1886, 2045, 2174, 2303, 2432};
        for (int k = 0; k < 8; k++) {
            stopsAre(x, 0, k, 1, minutes[k], k == 7 ? 10 : 0, k == 0 ? 10 : 0, k == 7 ? 0 : 10, k >= 1 && k <= 4 ? 1 : 0);
        }
        row("whole", x::whole, 10, 0, 8, 4, 2432, 10);
        faresAre(x, 9, 7, 2432, 1, 1, 0);
        check.is("child in the last minute but one", x.child(0, 2431, 0), 6);
        check.is("and its next one", x.child(0, 2431, 1), 7);
        check.is("child in the last minute", x.child(0, 2432, 0), 7);
        check.is("which is no between", x.child(0, 2432, 1), NONE);
    }

    @Says("All that happens goes by minutes, of like ones by TRAINS.")
    void p18_likeMinutesGoByTrains() {
        String ahead = Lines.train("t", 0, 1, "a after 5 c after 5 b");
        int[][] rows = {{9, 1, 1}, {10, 2, 1}, {11, 2, 2}};
        for (int[] row : rows) {
            String then = Lines.train("us", row[0], 1, "b after 3 c");
            String p = Lines.person("p", 1, "a", "a", "c", 0);
            BornAboard x = Check.of(Lines.stations(3) + ahead + then + p);
            check.is("rides, us second, from " + row[0], x.fares(0, 2), row[1]);
            BornAboard y = Check.of(Lines.stations(3) + then + ahead + p);
            check.is("rides, us first, from " + row[0], y.fares(0, 2), row[2]);
        }
    }

    @Says("It STOPS at its first and its last STATION, and at one where somebody aboard was born.")
    void p18_whereATrainStops() {
        String line = Lines.stations(4) + Lines.train("t", 7, 9, "a after 1 b after 1 c");
        BornAboard x = Check.of(line);
        stopsAre(x, 0, 0, 1, 7, 0, 0, 0, 0);
        stopsAre(x, 0, 1, 0, 8, 0, 0, 0, 0);
        stopsAre(x, 0, 2, 1, 9, 0, 0, 0, 0);
        check.is("born there, aboard", Check.of(line + Lines.person("p", 1, "b", "a", "c", 0)).stops(0, 1, 0), 1);
        check.is("born there, not aboard", Check.of(line + Lines.person("p", 1, "b", "a", "d", 0)).stops(0, 1, 0), 0);
        check.is("born there, there", Check.of(line + Lines.person("p", 1, "b", "b", "c", 0)).stops(0, 1, 0), 0);
        check.is("wishes to be there alone", Check.of(line + Lines.person("p", 1, "a", "a", "b", 0)).stops(0, 1, 0), 0);
        check.is("born between, aboard", Check.of(line + Lines.person("p", 1, "b c", "a", "c", 0)).stops(0, 1, 0), 0);
        String others = Lines.stations(14) + Lines.train("t", 7, 9, "b after 1 a after 1 n after 1 m");
        BornAboard both = Check.of(others + Lines.person("p", 1, "a", "b", "m", 0) + Lines.person("q", 1, "n", "b", "m", 0));
        row("born at the first STATION of all, and at the last", k -> both.stops(0, k, 0), 1, 1, 1, 1);
        both.wish(0, 2);
        row("not aboard now", k -> both.stops(0, k, 0), 1, 0, 1, 1);
        BornAboard wished = Check.of(others + Lines.person("p", 1, "a", "b", "a", 0));
        check.is("he gets off at the first STATION of all", wished.stops(0, 1, 2), 1);
        wished.wish(0, 13);
        check.is("he wishes that no more", wished.stops(0, 1, 2), 0);
        BornAboard two = Check.of(Lines.stations(2) + Lines.train("t", 0, 1, "a after 1 b"));
        check.is("first of two", two.stops(0, 0, 0), 1);
        check.is("last of two", two.stops(0, 1, 0), 1);
    }

    @Says("At a STOP first they get off: at its last STATION all; else each whose wish (to) that is, but nobody who is "
        + "hired.")
    void p18_whoGetsOff() {
        BornAboard x = Check.of(Lines.stations(4) + Lines.train("t", 0, 12, "a after 1 b after 1 c after 1 d")
            + Lines.person("p", 1, "b", "a", "b", 0)
            + Lines.person("o", 1, "a", "a", "b", 0) + Lines.person("q", 1, "a", "a", "d", 0)
            + Lines.person("h", 1, "a", "a", "b", 1)
            + Lines.person("r", 1, "a", "a", "c", 0));
        x.hire(3, true);
        stopsAre(x, 0, 0, 1, 0, 0, 5, 5, 0);
        stopsAre(x, 0, 1, 1, 1, 2, 0, 3, 0);
        stopsAre(x, 0, 2, 0, 6, 0, 0, 3, 0);
        stopsAre(x, 0, 3, 1, 7, 3, 0, 0, 0);
        x.hire(3, false);
        check.is("not hired he gets off, too", x.stops(0, 1, 2), 3);
    }

    @Says("Then, but at its last one, those who are at that STATION get on, by numbers, as long as there are seats")
    void p18_seats() {
        for (int seats = 1; seats <= 12; seats++) {
            BornAboard x = Check.of(Lines.stations(2) + Lines.train("t", 0, seats, "a after 1 b")
                + Lines.people(10, 1, "a", "a", "b", 0));
            int on = Math.min(seats, 10);
            stopsAre(x, 0, 0, 1, 0, 0, on, on, 0);
            stopsAre(x, 0, 1, 1, 1, on, 0, 0, 0);
            check.is("the last one with a seat", x.fares(on - 1, 2), 1);
            if (on < 10) {
                check.is("the first one without", x.fares(on, 2), 0);
            }
        }
        String line = Lines.stations(3) + Lines.train("t", 0, 1, "a after 1 b after 1 c");
        String p = Lines.person("p", 1, "b", "a", "b", 0);
        String q = Lines.person("q", 1, "a", "b", "c", 0);
        for (String people : new String[] {p + q, q + p}) {
            BornAboard x = Check.of(line + people);
            stopsAre(x, 0, 1, 1, 1, 1, 1, 1, 0);
            check.is("the seat is free at once", x.whole(0), 2);
        }
        BornAboard full = Check.of(line + Lines.person("o", 1, "b", "a", "c", 0) + q);
        stopsAre(full, 0, 1, 1, 1, 0, 0, 1, 0);
        BornAboard last = Check.of(line + Lines.person("h", 1, "c", "c", "a", 1));
        last.hire(0, true);
        stopsAre(last, 0, 2, 1, 2, 0, 0, 0, 0);
        check.is("nobody gets on at the last one", last.fares(0, 2), 0);
    }

    @Says("who is not, if his wish comes later among the STATIONS of the TRAIN.")
    void p18_whoGetsOnIfNotHired() {
        String line = Lines.stations(5) + Lines.train("t", 0, 12, "a after 1 b after 1 c after 1 d");
        int[] first = {0, 1, 1, 1, 0};
        int[] third = {0, 0, 0, 1, 0};
        for (int to = 0; to < 5; to++) {
            BornAboard x = Check.of(line + Lines.person("p", 1, "e", "a", "" + Lines.place(to), 0));
            check.is("at a to " + to, x.stops(0, 0, 3), first[to]);
            BornAboard y = Check.of(line + Lines.person("g", 1, "c", "a", "d", 0) + Lines.person("p", 1, "e", "c", ""
                + Lines.place(to), 0));
            check.is("at c to " + to, y.stops(0, 2, 3), third[to]);
            BornAboard z = Check.of(line + Lines.person("p", 1, "c", "c", "" + Lines.place(to), 0));
            check.is("where it goes through, to " + to, z.fares(0, 2), 0);
        }
    }

    @Says("who is hired, if he has not ridden in that DAY")
    void p18_aHiredOneRidesOnceADay() {
        String line = Lines.stations(4) + Lines.train("t", 0, 12, "a after 1 b") + Lines.train("us", 50, 12, "b after 1 c");
        for (int to = 0; to < 4; to++) {
            BornAboard x = Check.of(line + Lines.person("h", 1, "d", "a", "" + Lines.place(to), 1));
            x.hire(0, true);
            check.is("rides once, wherever his wish is", x.fares(0, 2), 1);
            check.is("gets to b", x.fares(0, 0), 1);
            x.day();
            check.is("rides again in the next DAY", x.fares(0, 2), 1);
            check.is("gets to c", x.fares(0, 0), 2);
            x.day();
            check.is("no TRAIN from c", x.fares(0, 2), 0);
        }
    }

    @Says("It leaves at once from its first STATION and from one at which it does not STOP, so many minutes (stop) later "
        + "from another one.")
    void p18_whenATrainLeaves() {
        for (int stop : new int[] {1, 2, 30}) {
            BornAboard x = Check.of(Lines.stations(4) + "stop " + stop + ";"
                + Lines.train("t", 100, 9, "a after 5 b after 7 c after 9 d")
                + Lines.person("g", 1, "c", "a", "d", 0) + Lines.person("o", 1, "a", "a", "d", 0));
            row("comes", k -> x.stops(0, k, 1), 100, 105, 112, 121 + stop);
            row("STOPS", k -> x.stops(0, k, 0), 1, 0, 1, 1);
        }
        BornAboard y = Check.of(Lines.stations(3) + Lines.train("t", 0, 9, "a after 5 b after 5 c")
            + Lines.person("g", 1, "b", "a", "c", 0));
        check.is("4 without a stop told", y.stops(0, 2, 1), 14);
    }

    @Says({"It is at the next one so many minutes behind that as are told",
        "(one way or the other: a STOP BETWEEN; nobody gets off or on)"})
    void p18_stopsBetween() {
        String line = Lines.stations(4) + "stop 7;" + Lines.train("t", 100, 9, "a after 5 b after 6 c");
        String[] births = {"a b", "b a", "b c", "c b", "a c", "a", "d a"};
        int[][] due = {{1, 0, 112, 118}, {1, 0, 112, 118}, {0, 1, 105, 118}, {0, 1, 105, 118}, {0, 0, 105, 111}, {0, 0, 105,
            111}, {0, 0, 105, 111}};
        for (int n = 0; n < births.length; n++) {
            BornAboard x = Check.of(line + Lines.person("p", 1, births[n], "a", "c", 0));
            stopsAre(x, 0, 0, 1, 100, 0, 1, 1, 0);
            stopsAre(x, 0, 1, 0, due[n][2], 0, 0, 1, due[n][0]);
            stopsAre(x, 0, 2, 1, due[n][3], 1, 0, 0, due[n][1]);
            check.is("STOPS BETWEEN", x.whole(3), due[n][0] + due[n][1]);
        }
        BornAboard many = Check.of(line + Lines.people(9, 1, "a b", "a", "c", 0));
        check.is("one for many", many.stops(0, 1, 1), 112);
        check.is("one for many", many.whole(3), 1);
        String away = Lines.person("r", 1, "b a", "a", "d", 0);
        String aboard = Lines.person("p", 1, "a b", "a", "c", 0);
        check.is("one of two is aboard", Check.of(line + aboard + away).whole(3), 1);
        check.is("the other one of two is", Check.of(line + away + aboard).whole(3), 1);
        BornAboard trains = Check.of(line + Lines.train("us", 0, 9, "b after 5 a after 6 d") + aboard
            + Lines.person("q", 1, "b a", "b", "d", 0)
            + Lines.person("o", 1, "a d", "b", "d", 0));
        check.is("of all TRAINS together", trains.whole(3), 3);
        BornAboard absent = Check.of(line + Lines.person("p", 1, "a b", "a", "d", 0));
        check.is("none without him aboard", absent.stops(0, 1, 1), 105);
        String g = Lines.person("g", 1, "b", "a", "c", 0);
        BornAboard off = Check.of(line + g + Lines.person("p", 1, "b c", "a", "b", 0));
        stopsAre(off, 0, 2, 1, 118, 1, 0, 0, 0);
        BornAboard on = Check.of(line + g + Lines.person("p", 1, "b c", "b", "c", 0));
        stopsAre(on, 0, 2, 1, 125, 2, 0, 0, 1);
    }

    // ---- promise 19

    @Says({"Of one of the PEOPLE: 0 where he is behind it, 1 the minute in which he got off last (NONE: never), 2 on how "
        + "many TRAINS he rode, "
        + "3 whether he ARRIVED, 4 whether he is STRANDED.", "NONE when there is none such, or for others."})
    void p19_noneSuch() {
        BornAboard x = Check.of(Lines.SMALL);
        BornAboard y = Check.of(FULL);
        for (int what = 0; what < 5; what++) {
            int of = what;
            noneOutside("person of 3", 2, p -> x.fares(p, of));
            noneOutside("person of 10", 9, p -> y.fares(p, of));
        }
        noneOutside("what", 4, what -> x.fares(0, what));
        noneOutside("what of the tenth", 4, what -> y.fares(9, what));
        check.is("the tenth", y.fares(9, 0) != NONE, true);
        onlyAsks("fares", z -> {
            z.fares(0, 0);
            z.fares(3, 0);
            z.fares(0, 5);
        });
    }

    @Says({"1 the minute in which he got off last (NONE: never), 2 on how many TRAINS he rode",
        "STRANDED is, who got off last where he did not, and is not hired."})
    void p19_noTrainAndSixTrains() {
        StringBuilder text = new StringBuilder(Lines.stations(8));
        for (int t = 0; t < 6; t++) {
            text.append(Lines.train("t" + Lines.place(t), 10 * t, 1, Lines.place(t) + " after 5 h after 5 "
                + Lines.place(t + 1)));
        }
        BornAboard x = Check.of(text + Lines.person("p", 1, "a", "a", "h", 5) + Lines.person("q", 1, "a", "h", "a", 0)
            + Lines.person("r", 1, "a", "b", "b", 0));
        faresAre(x, 0, 6, 60, 6, 0, 1);
        faresAre(x, 1, 7, NONE, 0, 0, 0);
        faresAre(x, 2, 1, NONE, 0, 0, 0);
        x.hire(0, true);
        faresAre(x, 0, 1, 10, 1, 0, 0);
        row("whole", x::whole, 0, 0, 12, 0, 60, 1);
    }

    @Says({"ARRIVED is, who got off in it where he wished to be.",
        "STRANDED is, who got off last where he did not, and is not hired."})
    void p19_arrivedAndStranded() {
        String line = Lines.stations(4) + Lines.train("t", 0, 12, "a after 1 b after 1 c");
        BornAboard x = Check.of(line + Lines.person("p", 1, "a", "a", "c", 1) + Lines.person("q", 1, "a", "a", "b", 1)
            + Lines.person("r", 1, "a", "c", "c", 1) + Lines.person("s", 1, "a", "b", "c", 1));
        faresAre(x, 0, 2, 2, 1, 1, 0);
        faresAre(x, 1, 2, 2, 1, 0, 1);
        faresAre(x, 2, 2, NONE, 0, 0, 0);
        faresAre(x, 3, 1, NONE, 0, 0, 0);
        row("whole", x::whole, 1, 1, 2, 0, 2, 2);
        x.hiring(3);
        faresAre(x, 0, 2, 2, 1, 1, 0);
        faresAre(x, 1, 2, 2, 1, 0, 0);
        row("whole", x::whole, 1, 0, 2, 0, 2, 1);
    }

    @Says("All of this is of a DAY from now on, as all is now, but for whom else is said.")
    void p19_aDayIsAsAllIsNow() {
        BornAboard x = Check.of(Lines.stations(4) + Lines.train("t", 0, 12, "a after 1 b after 1 c")
            + Lines.person("p", 1, "b", "a", "b", 1));
        faresAre(x, 0, 1, 1, 1, 1, 0);
        x.wish(0, 2);
        faresAre(x, 0, 2, 6, 1, 1, 0);
        x.wish(0, 3);
        faresAre(x, 0, 0, NONE, 0, 0, 0);
        x.hire(0, true);
        faresAre(x, 0, 2, 6, 1, 0, 0);
        x.undo();
        faresAre(x, 0, 0, NONE, 0, 0, 0);
        x.undo();
        x.undo();
        faresAre(x, 0, 1, 1, 1, 1, 0);
        x.move(0, 2);
        faresAre(x, 0, 2, NONE, 0, 0, 0);
        x.undo();
        x.day();
        faresAre(x, 0, 1, NONE, 0, 0, 0);
        check.is("to ask is no ACT", x.has(8), 1);
    }

    /** A day that would be has nothing of one that was asked for ahead of it. */
    @Says("All of this is of a DAY from now on, as all is now, but for whom else is said.")
    void p18_aDayHasNothingOfTheOneAhead() {
        BornAboard x = Check.of(Lines.stations(5) + "stop 5;" + Lines.train("t", 0, 12, "a after 1 b after 1 c after 1 d")
            + Lines.person("p", 1, "b", "a", "b", 1) + Lines.person("q", 1, "b c", "b", "d", 0));
        stopsAre(x, 0, 1, 1, 1, 1, 1, 1, 0);
        stopsAre(x, 0, 2, 0, 12, 0, 0, 1, 1);
        row("whole", x::whole, 2, 0, 3, 1, 13, 2);
        x.wish(0, 4);
        stopsAre(x, 0, 1, 0, 1, 0, 0, 0, 0);
        stopsAre(x, 0, 2, 0, 2, 0, 0, 0, 0);
        row("whole", x::whole, 0, 0, 2, 0, 3, 0);
        row("because", k -> x.because(0, k), 0, 0, 0, 0);
        x.undo();
        row("whole", x::whole, 2, 0, 3, 1, 13, 2);
    }

    /** A question for a minute in the middle of a day leaves nobody aboard. */
    @Says("All of this is of a DAY from now on, as all is now, but for whom else is said.")
    void p33_aDayBehindAHalfOne() {
        BornAboard x = Check.of(Lines.SMALL);
        check.is("on the way", x.child(0, 11, 1), 1);
        stopsAre(x, 0, 0, 1, 10, 0, 1, 1, 0);
        check.is("on the way", x.child(0, 11, 1), 1);
        check.is("not yet", x.child(0, 9, 1), NONE);
        check.is("at a", x.child(0, 9, 0), 0);
        check.is("on the way", x.child(0, 26, 1), 2);
        check.is("r, ahead of any ride", x.child(2, 0, 0), 2);
        check.is("on the way", x.child(0, 26, 1), 2);
        Check.tell(x, Lines.stations(2) + Lines.person("p", 1, "a", "b", "a", 0));
        check.is("without TRAINS", x.child(0, 26, 0), 1);
        check.is("without TRAINS", x.child(0, 26, 1), NONE);
        Check.tell(x, FullTest.full());
        for (int p = 0; p < 10; p++) {
            check.is("ahead of the first TRAIN's next minute", x.child(p, 0, 0), p % 6);
            check.is("behind all", x.child(p, 9999, 0), x.fares(p, 0));
        }
    }

    // ---- promise 20

    @Says({"Of the whole DAY: 0 how many ARRIVED, 1 how many are STRANDED, 2 STOPS at STATIONS, 3 STOPS BETWEEN, "
        + "4 the minute in which the last TRAIN comes to its last STATION (NONE without TRAINS), 5 GOOD. NONE for others.",
        "GOOD of a DAY: how many, not hired, are behind it where they wish to be."})
    void p20_nobodyAndAll() {
        noneOutside("what of a new one", 5, new BornAboard()::whole);
        noneOutside("what", 5, started()::whole);
        row("without TRAINS", Check.of(Lines.stations(1) + Lines.people(10, 1, "a", "a", "a", 0))::whole, 0, 0, 0, 0, NONE,
            10);
        String line = Lines.stations(3) + Lines.train("t", 0, 12, "a after 1 b after 1 c");
        row("all arrive", Check.of(line + Lines.people(10, 1, "a", "a", "c", 0))::whole, 10, 0, 2, 0, 2, 10);
        row("all are stranded", Check.of(line + Lines.people(10, 1, "a", "a", "b", 0))::whole, 0, 10, 2, 0, 2, 0);
        BornAboard hired = Check.of(line + Lines.people(10, 1, "a", "a", "c", 1));
        hired.hiring(1023);
        row("all hired", hired::whole, 10, 0, 2, 0, 2, 0);
        onlyAsks("whole", x -> {
            for (int what = -1; what <= 6; what++) {
                x.whole(what);
            }
        });
    }

    @Says("4 the minute in which the last TRAIN comes to its last STATION (NONE without TRAINS)")
    void p20_theLastTrain() {
        String early = Lines.train("te", 0, 1, "a after 1 b");
        String late = Lines.train("tl", 1439, 1, "a after 1 b");
        String slow = Lines.train("ts", 1400, 1, "a after 99 b");
        check.is("late behind early", Check.of(Lines.stations(2) + early + late).whole(4), 1440);
        check.is("early behind late", Check.of(Lines.stations(2) + late + early).whole(4), 1440);
        check.is("who comes last, not who starts last", Check.of(Lines.stations(2) + slow + late).whole(4), 1499);
        check.is("the other way round", Check.of(Lines.stations(2) + late + slow).whole(4), 1499);
        check.is("one minute", Check.of(Lines.stations(2) + early).whole(4), 1);
        check.is("none", Check.of(Lines.stations(2)).whole(4), NONE);
    }

    // ---- promise 31

    @Says({"BECAUSE, of a TRAIN at its k-th STATION, as bits; 0 at its first and last one, and where it does not STOP.",
        "NONE when there are none such."})
    void p31_because() {
        noneSuchCall(BornAboard::because);
        BornAboard x = Check.of(Lines.SMALL);
        check.is("first of two", x.because(1, 0), 0);
        check.is("last of two", x.because(1, 1), 0);
        onlyAsks("because", z -> {
            z.because(0, 1);
            z.because(2, 0);
        });
    }

    @Says({"BECAUSE of whom a TRAIN STOPS at a STATION that is neither its first nor its last one: those who are aboard as "
        + "it comes and were born there.", "0 at its first and last one, and where it does not STOP"})
    void p31_becauseOfNobodyAndAll() {
        String line = Lines.stations(5) + Lines.train("t", 0, 12, "a after 1 b after 1 c after 1 d");
        BornAboard all = Check.of(line + Lines.people(10, 1, "b", "a", "d", 0));
        row("because", k -> all.because(0, k), 0, 1023, 0, 0);
        BornAboard ends = Check.of(line + Lines.people(5, 1, "a", "a", "d", 0) + Lines.person("q", 1, "d", "a", "d", 0));
        row("born at the ends", k -> ends.because(0, k), 0, 0, 0, 0);
        BornAboard x = Check.of(line + Lines.person("p", 1, "b", "a", "b", 0) + Lines.person("q", 1, "b", "b", "d", 0)
            + Lines.person("r", 1, "c", "b", "d", 0) + Lines.person("s", 1, "c", "a", "b", 0)
            + Lines.person("o", 1, "b c", "a", "d", 0));
        row("who comes, not who gets on; not who got off", k -> x.because(0, k), 0, 1, 4, 0);
    }

    // ---- promise 32

    @Says({"LEFT, of a TRAIN ahead of its k-th STATION, as bits; NONE when there are none such."})
    void p32_noneSuch() {
        noneSuchCall(BornAboard::left);
        onlyAsks("left", z -> {
            z.left(0, 1);
            z.left(2, 0);
        });
    }

    @Says("LEFT it have, ahead of a STATION, those who rode on this TRAIN, got off it ahead of that one, and were born "
        + "there.")
    void p32_whoLeft() {
        String line = Lines.stations(4) + Lines.train("t", 0, 12, "a after 1 b after 1 c after 1 d")
            + Lines.train("us", 0, 12, "a after 1 c");
        String g = Lines.person("g", 1, "b", "a", "d", 0);
        BornAboard all = Check.of(line + g + Lines.people(9, 1, "d", "a", "b", 0));
        row("nine left at b", k -> all.left(0, k), 0, 0, 0, 1022);
        row("the other TRAIN", k -> all.left(1, k), 0, 0);
        BornAboard x = Check.of(line + g + Lines.person("p", 1, "b", "a", "b", 0) + Lines.person("q", 1, "a", "a", "b", 0)
            + Lines.person("r", 1, "c", "a", "b", 0) + Lines.person("s", 1, "c", "b", "b", 0)
            + Lines.person("o", 1, "c d", "a", "b", 0)
            + Lines.person("n", 1, "d", "a", "d", 0));
        row("got off there, rode not, is born elsewhere", k -> x.left(0, k), 0, 0, 8, 0);
        BornAboard y = Check.of(line + g + Lines.person("h", 1, "c", "a", "d", 0) + Lines.person("p", 1, "d", "a", "c", 0)
            + Lines.person("q", 1, "d", "a", "b", 0));
        row("at the station just ahead", k -> y.left(0, k), 0, 0, 0, 12);
    }

    // ---- promise 33

    @Says({"A CHILD that one has in a minute (0 .. 9999): where it is born (what 0; the STATION that was left, if it is "
        + "between two), "
        + "the second STATION (1; NONE at one).", "NONE when there are none such, or for others."})
    void p33_noneSuch() {
        BornAboard x = Check.of(Lines.SMALL);
        BornAboard y = Check.of(FULL);
        for (int what = 0; what < 2; what++) {
            int of = what;
            noneOutside("minute", 9999, minute -> x.child(0, minute, of));
            noneOutside("person of 3", 2, p -> x.child(p, 0, of));
            noneOutside("person of 10", 9, p -> y.child(p, 9999, of));
        }
        noneOutside("what", 1, what -> x.child(0, 0, what));
        noneOutside("what on the way", 1, what -> x.child(0, 11, what));
        noneOutside("what on the way from b", 1, what -> x.child(0, 26, what));
        check.is("minute 0", x.child(0, 0, 0), 0);
        check.is("minute 9999", x.child(0, 9999, 0), 2);
        check.is("minute 0 at one", x.child(0, 0, 1), NONE);
        check.is("minute 9999 at one", x.child(0, 9999, 1), NONE);
        onlyAsks("child", z -> {
            z.child(0, 11, 0);
            z.child(0, 10000, 0);
            z.child(3, 0, 0);
        });
    }

    private void childrenAre(BornAboard x, int person, int[][] due) {
        for (int[] row : due) {
            check.is("child(" + person + ", " + row[0] + ", 0)", x.child(person, row[0], 0), row[1]);
            check.is("child(" + person + ", " + row[0] + ", 1)", x.child(person, row[0], 1), row[2]);
        }
    }

    @Says({"is born where he is behind all that happens in that minute and ahead of it: aboard a TRAIN that has left a "
        + "STATION "
        + "(later than the minute in which it leaves it) between that one and its next one; else at the STATION where he "
        + "is, or where his TRAIN is.",
        "(A TRAIN leaves its first STATION, and one at which it does not STOP, in the minute in which it comes there.)"})
    void p33_whereOneIsInEachMinute() {
        // p: a 0, through b 2, a stop at c 4 to 5, d 8; between c and d the train stops for q.
        BornAboard x = Check.of(Lines.stations(4) + "stop 1;" + Lines.train("t", 0, 9, "a after 2 b after 2 c after 2 d")
            + Lines.train("us", 8, 9, "d after 1 a") + Lines.person("p", 1, "c", "a", "d", 0)
            + Lines.person("q", 1, "c d", "a", "d", 0)
            + Lines.person("r", 1, "a", "a", "c", 0) + Lines.person("s", 1, "a", "b", "d", 0)
            + Lines.person("o", 1, "a", "d", "a", 0));
        childrenAre(x, 0, new int[][] {{0, 0, NONE}, {1, 0, 1}, {2, 1, NONE}, {3, 1, 2}, {4, 2, NONE}, {5, 2, NONE}, {6, 2,
            3}, {7, 2, 3},
            {8, 3, NONE}, {9, 3, NONE}});
        childrenAre(x, 2, new int[][] {{0, 0, NONE}, {3, 1, 2}, {4, 2, NONE}, {5, 2, NONE}, {6, 2, NONE}, {9999, 2, NONE}});
        childrenAre(x, 3, new int[][] {{0, 1, NONE}, {2, 1, NONE}, {3, 1, NONE}, {9999, 1, NONE}});
        childrenAre(x, 4, new int[][] {{0, 3, NONE}, {7, 3, NONE}, {8, 3, NONE}, {9, 0, NONE}, {10, 0, NONE}});
    }

    @Says("later than the minute in which it leaves it")
    void p33_aLongStop() {
        BornAboard x = Check.of(Lines.stations(3) + "stop 30;" + Lines.train("t", 1439, 9, "a after 99 b after 99 c")
            + Lines.person("p", 1, "b", "a", "c", 0));
        childrenAre(x, 0, new int[][] {{1438, 0, NONE}, {1439, 0, NONE}, {1440, 0, 1}, {1537, 0, 1}, {1538, 1, NONE}, {1567,
            1, NONE}, {1568, 1, NONE},
            {1569, 1, 2}, {1666, 1, 2}, {1667, 2, NONE}});
    }

    @Says("else at the STATION where he is, or where his TRAIN is.")
    void p33_whoGotOff() {
        BornAboard x = Check.of(Lines.stations(3) + Lines.train("t", 0, 9, "a after 5 b after 5 c")
            + Lines.person("p", 1, "b", "a", "b", 0)
            + Lines.person("q", 1, "b", "a", "c", 0));
        childrenAre(x, 0, new int[][] {{4, 0, 1}, {5, 1, NONE}, {9, 1, NONE}, {10, 1, NONE}, {14, 1, NONE}});
        childrenAre(x, 1, new int[][] {{4, 0, 1}, {5, 1, NONE}, {9, 1, NONE}, {10, 1, 2}, {13, 1, 2}, {14, 2, NONE}});
    }

    /** He changes trains in the minute in which he comes; what is behind all of that minute counts. */
    @Says("is born where he is behind all that happens in that minute")
    void p33_aChangeInOneMinute() {
        BornAboard x = Check.of(Lines.stations(3) + Lines.train("t", 0, 1, "a after 5 c after 5 b")
            + Lines.train("us", 10, 1, "b after 3 c")
            + Lines.person("p", 1, "a", "a", "c", 0));
        childrenAre(x, 0, new int[][] {{9, 2, 1}, {10, 1, NONE}, {11, 1, 2}, {12, 1, 2}, {13, 2, NONE}});
    }

    // ---- promise 34

    private static int[] places(BornAboard x) {
        int[] places = new int[x.has(2)];
        for (int p = 0; p < places.length; p++) {
            places[p] = x.person(p, 3);
        }
        return places;
    }

    /** How many days go by, one by one, till one changes nothing. */
    private static int daysTillStill(BornAboard x) {
        int[] was = places(x);
        for (int days = 1; days <= 40; days++) {
            x.day();
            int[] now = places(x);
            if (Arrays.equals(was, now)) {
                return days;
            }
            was = now;
        }
        return NONE;
    }

    @Says({"DAYS ON END: how many DAYS (what 0, the one that changes nothing, too; 31 if 30 were not enough)",
        "DAYS ON END: DAY behind DAY, as people are behind the one ahead (nobody's wish, birth, hiring is another one), "
            + "till a DAY behind which all are where they were ahead of it, or 30 DAYS went by."})
    void p34_30DaysAreEnoughOrNot() {
        check.is("one by one", daysTillStill(Check.of(SLOW)), 31);
        BornAboard x = Check.of(SLOW);
        check.is("30 are not enough", x.settles(0), 31);
        x.day();
        check.is("30 are just enough", x.settles(0), 30);
        x.day();
        check.is("29", x.settles(0), 29);
        BornAboard never = Check.of(Lines.stations(2) + Lines.train("t", 0, 1, "a after 1 b")
            + Lines.train("us", 0, 1, "b after 1 a")
            + Lines.person("p", 1, "a", "a", "a", 1));
        check.is("he stays", never.settles(0), 1);
        never.hire(0, true);
        check.is("to and fro", never.settles(0), 31);
        check.is("30 days bring him back", never.settles(2), 0);
    }

    @Says({"GOOD at the end (1), how many are at the end not where they are now (2)",
        "the DAY (from 1 on) behind which GOOD is first the most (3)"})
    void p34_whatIsAtTheEnd() {
        for (int ahead = 0; ahead < 2; ahead++) {
            BornAboard x = Check.of(SLOW);
            BornAboard y = Check.of(SLOW);
            if (ahead == 1) {
                x.day();
                y.day();
            }
            int[] now = places(y);
            int most = 0;
            int first = 0;
            for (int n = 1; n <= 30; n++) {
                int good = y.whole(5);
                if (first == 0 || good > most) {
                    most = good;
                    first = n;
                }
                y.day();
            }
            int elsewhere = 0;
            int good = 0;
            int[] end = places(y);
            for (int p = 0; p < now.length; p++) {
                elsewhere += now[p] != end[p] ? 1 : 0;
                good += y.person(p, 4) == end[p] ? 1 : 0;
            }
            row("settles", x::settles, 31 - ahead, good, elsewhere, first);
        }
        BornAboard worse = Check.of(Lines.stations(2) + Lines.train("t", 0, 1, "a after 1 b")
            + Lines.people(3, 1, "a", "a", "b", 0));
        row("one a day", worse::settles, 4, 3, 3, 3);
        BornAboard ten = Check.of(Lines.stations(2) + Lines.train("t", 0, 12, "a after 1 b")
            + Lines.people(10, 1, "a", "a", "b", 0));
        row("ten at once", ten::settles, 2, 10, 10, 1);
        BornAboard still = Check.of(Lines.stations(2) + Lines.person("p", 1, "a", "a", "b", 0));
        row("nobody gets there", still::settles, 1, 0, 0, 1);
    }

    @Says("NONE for others.")
    void p34_others() {
        noneOutside("what of a new one", 3, new BornAboard()::settles);
        noneOutside("what", 3, started()::settles);
        onlyAsks("settles", x -> {
            for (int what = -1; what <= 4; what++) {
                x.settles(what);
            }
        });
    }

    @Says("(nobody's wish, birth, hiring is another one)")
    void p34_daysAreNoYears() {
        BornAboard x = Check.of(Lines.stations(2) + Lines.train("t", 0, 9, "a after 1 b")
            + Lines.train("us", 50, 9, "b after 1 a")
            + Lines.people(3, 99, "b", "a", "b", 1));
        row("there behind one DAY, and they stay", x::settles, 2, 3, 3, 1);
        check.is("no DRAW", x.has(9), 1);
    }
}
