/** The edges of promises 1 to 5: a new object, the tape, a line and its faults. */
public final class EdgesOfTextTest extends Edges {
    private static final String AB = Lines.stations(2);

    public static void main(String[] args) {
        new EdgesOfTextTest().runAll();
    }

    // ---- promise 1

    @Says("No STATIONS, no TRAINS, nobody; the seed is 1.")
    void p01_aNewObjectHasNothing() {
        BornAboard x = new BornAboard();
        row("has", x::has, 0, 0, 0, 0, 0, 4, 0, 0, 0, 1, 0);
        row("whole", x::whole, 0, 0, 0, 0, NONE, 0);
        row("most", x::most, 0, 0, 0);
        row("places", x::places, 0, 0, 0);
        row("settles", x::settles, 1, 0, 0, 1);
        row("status", x::status, 0, 0, 0, 0, 0, 0);
        row("fault", x::fault, 0, NONE);
        for (int kind = 0; kind < 3; kind++) {
            check.is("letter of " + kind, x.letter(kind, 0, 0), NONE);
        }
        check.is("station", x.station(0, 0), NONE);
        check.is("train", x.train(0, 0), NONE);
        check.is("person", x.person(0, 0), NONE);
        check.is("stops", x.stops(0, 0, 0), NONE);
        check.is("fares", x.fares(0, 0), NONE);
        check.is("least", x.least(0, 0), NONE);
        check.is("both", x.both(0, 1, 0), NONE);
        check.is("worth", x.worth(0), NONE);
        check.is("bear", x.bear(0, 0), NONE);
        check.is("stay", x.stay(0), NONE);
        check.is("seen", x.seen(0, 3, 0), NONE);
        check.is("dead", x.dead(0), NONE);
        check.is("runs", x.runs(1, 1, 0, 0), NONE);
        check.is("because", x.because(0, 0), NONE);
        check.is("left", x.left(0, 0), NONE);
        check.is("child", x.child(0, 0, 0), NONE);
        check.is("octet", x.octet(0), NONE);
    }

    @Says("No STATIONS, no TRAINS, nobody; the seed is 1.")
    void p01_aNewObjectHasNoTapeAndNoPast() {
        BornAboard x = new BornAboard();
        check.is("end(1)", x.end(1), false);
        check.is("undo()", x.undo(), false);
        check.is("on()", x.on(), false);
        check.is("the first feed()", x.feed(0x20202020, 0x20202020, 0x20202020, 0x20202020, 0x20202020), 20);
        BornAboard y = new BornAboard();
        check.is("line() at once", y.line(), 0);
        check.is("image()", y.image(), 3);
        check.is("day()", y.day(), 0);
        check.is("years()", y.years(40), 0);
        check.is("nobody draws", y.has(9), 1);
    }

    @Says("No STATIONS, no TRAINS, nobody; the seed is 1.")
    void p01_anObjectKnowsNothingOfAnother() {
        BornAboard x = started();
        BornAboard y = new BornAboard();
        row("has of a new one", y::has, 0, 0, 0, 0, 0, 4, 0, 0, 0, 1, 0);
        check.is("end(1) of a new one", y.end(1), false);
        check.is("octet(0) of a new one", y.octet(0), NONE);
        check.is("check.fault(0) of a new one", y.fault(0), 0);
        check.is("the other one's stations", x.has(0), 4);
    }

    // ---- promise 2

    @Says("Twenty bytes come behind those on the tape, of each number the highest first: how many there are")
    void p02_bytesComeHighestFirstBehindTheOthers() {
        BornAboard x = new BornAboard();
        // "station abcdef;stop " and "30;"
        check.is("feed()", x.feed(0x73746174, 0x696f6e20, 0x61626364, 0x65663b73, 0x746f7020), 20);
        check.is("feed()", x.feed(0x33303b20, 0x20202020, 0x20202020, 0x20202020, 0x20202020), 40);
        check.is("line()", x.line(), 2);
        row("letter", k -> x.letter(0, 0, k), 1, 2, 3, 4, 5, 6);
        check.is("stop", x.has(5), 30);
    }

    @Says("Twenty bytes come behind those on the tape, of each number the highest first: how many there are")
    void p02_bytesAre0To255() {
        BornAboard x = new BornAboard();
        // YEAR 255 of nobody: 0, 255, and 187 behind them.
        check.is("feed()", x.feed(0x00ffbb00, 0, 0, 0, 0), 20);
        check.is("end(3)", x.end(3), true);
        check.is("on()", x.on(), true);
        check.is("YEAR", x.has(6), 255);
        x.feed(0x20202020, 0x20202020, 0x20202020, 0x20202020, 0x202020ff);
        check.is("line() with 255", x.line(), NONE);
        check.is("its place", x.fault(1), 19);
        x.feed(0x20202020, 0x20202020, 0x20202020, 0x20202020, 0x20202000);
        check.is("line() with 0", x.line(), NONE);
        check.is("its place", x.fault(1), 19);
    }

    @Says("NONE, refused (0), if there would be more than 1600.")
    void p02_1600BytesAreTakenAndNoMore() {
        BornAboard x = new BornAboard();
        for (int n = 1; n <= 80; n++) {
            check.is("feed() " + n, x.feed(0, 0, 0, 0, 0), 20 * n);
        }
        check.is("status(0)", x.status(0), 0);
        check.is("feed() to 1620", x.feed(0, 0, 0, 0, 0), NONE);
        check.is("status(0)", x.status(0), 1);
        int refused = 1;
        for (int n : new int[] {1599, 1590, 1582, 1581}) {
            check.is("end()", x.end(n), true);
            refused++;
            check.is("feed() behind " + n, x.feed(0, 0, 0, 0, 0), NONE);
            check.is("status(0)", x.status(0), refused);
        }
        check.is("end(1580)", x.end(1580), true);
        check.is("feed() behind 1580", x.feed(0, 0, 0, 0, 0), 1600);
        check.is("end(1579)", x.end(1579), true);
        check.is("feed() behind 1579", x.feed(0, 0, 0, 0, 0), 1599);
        check.is("status(0)", x.status(0), refused);
    }

    @Says("NONE, refused (0), if there would be more than 1600.")
    void p02_aRefusedFeedChangesNothing() {
        String head = "station left;" + " ".repeat(1557) + "station righ";
        Calls full = x -> {
            Check.tell(x, Lines.SMALL);
            Check.put(x, head.substring(1));
        };
        check.is("bytes", head.length() - 1, 1581);
        refuses("feed() behind 1581", full, x -> x.feed(1, 2, 3, 4, 5), TAPE);
        BornAboard y = new BornAboard();
        Check.put(y, "stop 8;" + " ".repeat(1584) + "stop 3;");
        check.is("feed() behind 1598", y.feed(-1, -1, -1, -1, -1), NONE);
        check.is("line()", y.line(), 2);
        check.is("stop", y.has(5), 3);
    }

    // ---- promise 3

    @Says("The tape has its first n bytes alone: true")
    void p03_theFirstBytesStay() {
        BornAboard x = new BornAboard();
        check.is("end(0) of nothing", x.end(0), true);
        Check.put(x, "station a;station b;");
        check.is("all of them", x.end(20), true);
        check.is("all but one", x.end(19), true);
        check.is("one more again", x.end(20), false);
        check.is("ten", x.end(10), true);
        int[] more = Check.packed("stop 7;".chars().toArray(), 0);
        check.is("feed() behind ten", x.feed(more[0], more[1], more[2], more[3], more[4]), 30);
        check.is("line()", x.line(), 2);
        check.is("stations", x.has(0), 1);
        check.is("stop", x.has(5), 7);
        Check.put(x, "station a;station b;");
        check.is("none", x.end(0), true);
        check.is("none again", x.end(0), true);
        check.is("line() of none", x.line(), 0);
        check.is("status(0)", x.status(0), 1);
    }

    /** What stood behind the end is no part of a word or a number that ends there. */
    @Says("The tape has its first n bytes alone: true")
    void p03_whatStoodBehindTheEndIsGone() {
        String[] texts = {"stop 5|5;", "stop 12|34;", "stop 5|x;", "sto|p 5;", "station a|b;", "station a|;",
            "station abcdef|g;"};
        for (String text : texts) {
            int end = text.indexOf('|');
            BornAboard x = new BornAboard();
            Check.put(x, text.replace("|", ""));
            x.end(end);
            check.is("line() of " + text, x.line(), NONE);
            check.is("FAULT", x.fault(0), 1);
            check.is("place", x.fault(1), text.startsWith("sto|") ? 0 : end);
            Check.put(x, text.substring(0, end));
            check.is("line() of it again", x.line(), NONE);
            check.is("place", x.fault(1), text.startsWith("sto|") ? 0 : end);
        }
        String head = "stop 7;" + " ".repeat(1587);
        check.fault(head + "stop 5", 1, 1600);
        check.fault(head + " stop9", 1, 1599);
        check.fault(" ".repeat(1590) + "station ab", 1, 1600);
    }

    @Says("false, refused (0), if it has not so many, or n is below 0.")
    void p03_moreThanThereAreOrBelow0IsRefused() {
        for (int n : new int[] {-1, -2, MIN, 26, 27, 1600, 1601, MAX}) {
            denies("end(" + n + ") of 25", Edges::start, x -> x.end(n), TAPE);
        }
        for (int n : new int[] {-1, MIN, 1, 20, MAX}) {
            denies("end(" + n + ") of none", x -> Check.tell(x, Lines.SMALL), x -> x.end(n), TAPE);
        }
        BornAboard y = started();
        check.is("end(25) of 25", y.end(25), true);
        check.is("end(0)", y.end(0), true);
        check.is("end(1) of none", y.end(1), false);
    }

    @Says("false, refused (0), if it has not so many, or n is below 0.")
    void p03_aFullTapeEndsAt1600() {
        BornAboard x = new BornAboard();
        for (int n = 0; n < 80; n++) {
            x.feed(0x20202020, 0x20202020, 0x20202020, 0x20202020, 0x20202020);
        }
        check.is("end(1601)", x.end(1601), false);
        check.is("end(1600)", x.end(1600), true);
        check.is("end(1599)", x.end(1599), true);
        check.is("end(1600) then", x.end(1600), false);
        check.is("status(0)", x.status(0), 2);
    }

    // ---- promise 4

    @Says({"The tape (it goes) is THE LINE: how many STATEMENTS", "A LINE is a text: { STATEMENT ; } (90 at most)"})
    void p04_statementsAreCountedAndTheTapeGoes() {
        BornAboard x = new BornAboard();
        check.is("line() of nothing", x.line(), 0);
        check.is("of blanks", Check.tell(x, " \n \n"), 0);
        check.is("of one", Check.tell(x, "station a;"), 1);
        check.is("the tape went", x.end(1), false);
        check.is("of nothing again", x.line(), 0);
        check.is("that is a LINE without STATIONS", x.has(0), 0);
        check.is("of 89", Check.tell(x, "stop 5;".repeat(89)), 89);
        check.is("of 90", Check.tell(x, "stop 5;".repeat(90)), 90);
        check.is("of 91", Check.tell(x, "stop 5;".repeat(91)), NONE);
        check.is("the tape went with a FAULT, too", x.end(1), false);
        check.is("status(1)", x.status(1), 1);
    }

    @Says("NONE, refused (1), with a FAULT (all stays).")
    void p04_aFaultLeavesAllButTheTape() {
        // The same fault came ahead of that, so that check.fault() tells the same.
        Calls faulty = x -> {
            start(x);
            x.end(0);
            Check.tell(x, "station x;station y;stop 9;person o age 1 born x at y to q price 1;");
        };
        Calls again = x -> {
            Check.put(x, "station x;station y;stop 9;person o age 1 born x at y to q price 1;");
            check.is("line()", x.line(), NONE);
        };
        changesNothing("line() with FAULT 3", faulty, again, LINE);
        for (String text : new String[] {"x", "station x;station x;", "stop 31;", Lines.stations(15)}) {
            BornAboard x = started();
            x.end(0);
            int before = x.status(1);
            check.is("line() of " + text, Check.tell(x, text), NONE);
            check.is("refused", x.status(1), before + 1);
            check.is("stations stay", x.has(0), 4);
            check.is("acts stay", x.has(8), 6);
            check.is("hired ones stay", x.has(3), 2);
            check.is("YEAR stays", x.has(6), 2);
            check.is("stop stays", x.has(5), 5);
        }
    }

    /** Where a word of the text ahead ended, one of the next text may begin. */
    @Says("The tape (it goes) is THE LINE: how many STATEMENTS")
    void p04_aLineKnowsNothingOfTheTextAhead() {
        BornAboard x = new BornAboard();
        for (String text : new String[] {"s", "stop", "stop 7", "stop 7777", "station a", "station abcdef"}) {
            check.is("a text that ends too soon", Check.tell(x, text), NONE);
            check.is("a word there", Check.tell(x, " ".repeat(text.length()) + "stop 5;"), 1);
        }
        Check.tell(x, FullTest.full());
        check.is("a shorter line", Check.tell(x, Lines.SMALL), 10);
        check.is("has no more STATIONS", x.has(0), 4);
        check.is("nor TRAINS", x.has(1), 2);
        check.is("nor people", x.has(2), 3);
        check.is("a TRAIN has its own STATIONS alone", x.train(0, 13), NONE);
    }

    @Says("Without one it is YEAR 0, nobody is hired, no ACT can be undone; the seed stays.")
    void p04_aSoundLineStartsAnew() {
        BornAboard x = started();
        check.is("YEAR ahead", x.has(6), 2);
        check.is("hired ahead", x.has(3), 2);
        check.is("acts ahead", x.has(8), 6);
        x.end(0);
        check.is("line()", Check.tell(x, Lines.SMALL), 10);
        row("has", x::has, 4, 2, 3, 0, 0, 5, 0, 2, 0, 777, 0);
        for (int p = 0; p < 3; p++) {
            check.is("hired " + p, x.person(p, 6), 0);
        }
        row("p is as told", what -> x.person(0, what), 30, 1, NONE, 0, 2, 0, 0);
        row("q is as told", what -> x.person(1, what), 40, 2, 3, 0, 3, 7, 0);
        check.is("undo()", x.undo(), false);
        check.is("an empty line", x.line(), 0);
        row("has", x::has, 0, 0, 0, 0, 0, 4, 0, 0, 0, 777, 0);
        check.is("nobody", x.person(0, 0), NONE);
    }

    // ---- promise 5

    @Says("Of the latest line(): its FAULT (what 0; 0 without, and ahead of any), its place (1; NONE without). NONE for "
        + "another what.")
    void p05_faultIsOfTheLatestLine() {
        BornAboard x = new BornAboard();
        row("ahead of any", x::fault, 0, NONE);
        Check.tell(x, "stop 31;");
        row("with one", x::fault, 4, 5);
        noneOutside("fault", 1, x::fault);
        Check.put(x, "station a;station a;");
        row("till the next line()", x::fault, 4, 5);
        x.line();
        row("with another", x::fault, 2, 18);
        Check.tell(x, "x");
        row("at the first byte", x::fault, 1, 0);
        Check.tell(x, "stop 30;");
        row("without one", x::fault, 0, NONE);
        noneOutside("fault", 1, x::fault);
        onlyAsks("fault", y -> y.fault(2));
    }

    @Says({"5 one too many of a kind of STATEMENT, or the 91st STATEMENT (whatever it is), at its first byte.",
        "A LINE is a text: { STATEMENT ; } (90 at most)"})
    void p05_the91stStatement() {
        String some = "stop 5;".repeat(89);
        for (String last : new String[] {"stop 5;", "station a;", "\nstop\n5\n;\n"}) {
            check.sound(some + last, 90);
            for (String more : new String[] {"stop 5;", "station b;", "train", "person", "x", "abcdefg", "12345", "stop 99;",
                "to"}) {
                check.fault(some + last + more, 5, some.length() + last.length());
                check.fault(some + last + " \n" + more, 5, some.length() + last.length() + 2);
            }
        }
        check.fault(some + "x", 1, some.length());
        check.fault(some + "stop 31;x", 4, some.length() + 5);
    }

    @Says({"station NAME (14 STATIONS)", "5 one too many of a kind of STATEMENT"})
    void p05_the15thStation() {
        String all = Lines.stations(14);
        check.sound(all, 14);
        BornAboard x = Check.of(all);
        check.is("STATIONS", x.has(0), 14);
        check.is("the last one", x.letter(0, 13, 0), 14);
        check.fault(all + "station o;", 5, all.length());
        check.fault(all + "  station", 5, all.length() + 2);
        check.fault(all + "station a;", 5, all.length());
        check.fault(all + "station 5;", 5, all.length());
        check.sound(all + "stop 5;" + Lines.train("t", 0, 1, "a after 1 n"), 16);
    }

    @Says({"6 TRAINS", "5 one too many of a kind of STATEMENT"})
    void p05_the7thTrain() {
        StringBuilder all = new StringBuilder(AB);
        for (int t = 0; t < 6; t++) {
            all.append(Lines.train("t" + Lines.place(t), t, 1, "a after 1 b"));
        }
        check.sound(all.toString(), 8);
        check.is("TRAINS", Check.of(all.toString()).has(1), 6);
        check.fault(all + Lines.train("tz", 0, 1, "a after 1 b"), 5, all.length());
        check.fault(all + "\ntrain", 5, all.length() + 1);
        check.sound(all + "stop 5;station c;" + Lines.person("p", 1, "a", "a", "a", 1), 11);
    }

    @Says({"10 PEOPLE", "5 one too many of a kind of STATEMENT"})
    void p05_the11thPerson() {
        String all = AB + Lines.people(10, 1, "a", "a", "a", 1);
        check.sound(all, 12);
        check.is("PEOPLE", Check.of(all).has(2), 10);
        check.fault(all + Lines.person("pz", 1, "a", "a", "a", 1), 5, all.length());
        check.fault(all + " person", 5, all.length() + 1);
        check.sound(all + "stop 5;station c;" + Lines.train("t", 0, 1, "a after 1 b"), 15);
    }

    /** Both ends of a number's range are taken, what is just outside is told at its first byte. */
    private void range(String ahead, String behind, int least, int most, java.util.function.ToIntFunction<BornAboard> told) {
        for (int n : new int[] {least, least + 1, most - 1, most}) {
            BornAboard x = new BornAboard();
            check.is("line() with " + n, Check.tell(x, ahead + n + behind) > 0, true);
            check.is("told " + n, told.applyAsInt(x), n);
        }
        if (least > 0) {
            check.fault(ahead + (least - 1) + behind, 4, ahead.length());
            check.fault(ahead + "0000" + behind, 4, ahead.length());
        }
        check.fault(ahead + (most + 1) + behind, 4, ahead.length());
        check.fault(ahead + (most + 1), 4, ahead.length());
        check.fault(ahead + 9999 + behind, 4, ahead.length());
        check.fault(ahead + "  " + (most + 1) + behind, 4, ahead.length() + 2);
    }

    @Says({"stop N (1 .. 30, minutes that a STOP costs", "4 a NUMBER that can't be, at its first byte"})
    void p05_stopIs1To30() {
        range("stop ", ";", 1, 30, x -> x.has(5));
    }

    @Says("the last one counts; 4 without")
    void p05_theLastStopCountsAnd4Without() {
        check.is("without", Check.of("station a;").has(5), 4);
        check.is("with one", Check.of("stop 1;").has(5), 1);
        check.is("with three", Check.of("stop 30;stop 1;station a;stop 7;station b;").has(5), 7);
        BornAboard x = Check.of("stop 9;");
        Check.tell(x, "station a;");
        check.is("behind a line with one", x.has(5), 4);
    }

    @Says({"train NAME from N seats N calls NAME after N NAME { after N NAME } (0 .. 1439, 1 .. 12; STATIONS, unlike ones, "
        + "2 to 8; 1 .. 99 minutes from the one ahead; 6 TRAINS)",
        "4 a NUMBER that can't be, at its first byte"})
    void p05_aTrainsNumbers() {
        range(AB + "train t from ", " seats 1 calls a after 1 b;", 0, 1439, x -> x.train(0, 0));
        range(AB + "train t from 0 seats ", " calls a after 1 b;", 1, 12, x -> x.train(0, 1));
        range(AB + "train t from 0 seats 1 calls a after ", " b;", 1, 99, x -> x.train(0, 21));
        String long7 = Lines.stations(8)
            + "train t from 0 seats 1 calls a after 1 b after 1 c after 1 d after 1 e after 1 f after 1 g after ";
        range(long7, " h;", 1, 99, x -> x.train(0, 27));
    }

    @Says({"person NAME age N born NAME { NAME } at NAME to NAME price N (0 .. 99; a STATION, or two unlike ones: between "
        + "them; STATIONS; 0 .. 99, 0: not to be hired; 10 PEOPLE)",
        "4 a NUMBER that can't be, at its first byte"})
    void p05_aPersonsNumbers() {
        range(AB + "person p age ", " born a at a to a price 0;", 0, 99, x -> x.person(0, 0));
        range(AB + "person p age 5 born a at a to a price ", ";", 0, 99, x -> x.person(0, 5));
    }

    /** A train along the first so many stations. */
    private static String along(int calls) {
        StringBuilder text = new StringBuilder("train t from 0 seats 1 calls a");
        for (int k = 1; k < calls; k++) {
            text.append(" after 5 ").append(Lines.place(k));
        }
        return text.toString();
    }

    @Says({"STATIONS, unlike ones, 2 to 8", "a 9th STATION of a TRAIN: the after ahead of it, at its first byte"})
    void p05_aTrainHas2To8Stations() {
        String all = Lines.stations(14);
        for (int n = 2; n <= 8; n++) {
            BornAboard x = new BornAboard();
            check.is("line() with " + n, Check.tell(x, all + along(n) + ";"), 15);
            check.is("STATIONS", x.train(0, 2), n);
        }
        String one = all + along(1);
        check.fault(one + ";", 1, one.length());
        check.fault(one, 1, one.length());
        String eight = all + along(8);
        check.fault(eight + " after 5 i;", 1, eight.length() + 1);
        check.fault(eight + "\n  after", 1, eight.length() + 3);
        check.fault(eight + " after 100 a;", 1, eight.length() + 1);
        check.fault(eight + " afte", 1, eight.length() + 1);
    }

    @Says({"STATIONS, unlike ones, 2 to 8", "or one that must be unlike and is there already, at its first byte"})
    void p05_aTrainsStationsAreUnlike() {
        String all = Lines.stations(9);
        for (int n = 1; n <= 7; n++) {
            for (int k = 0; k < n; k++) {
                String text = all + along(n) + " after 5 ";
                check.fault(text + Lines.place(k) + ";", 3, text.length());
            }
        }
        String back = Lines.stations(9) + "train t from 0 seats 1 calls i after 5 h after 5 ";
        check.fault(back + "i;", 3, back.length());
        check.fault(back + "h;", 3, back.length());
        check.sound(back + "a;", 10);
        check.sound(AB + Lines.train("t", 0, 1, "a after 1 b") + Lines.train("us", 0, 1, "a after 1 b"), 4);
    }

    @Says({"a STATION, or two unlike ones: between them",
        "or one that must be unlike and is there already, at its first byte"})
    void p05_bornAtOneOrBetweenTwoUnlikeOnes() {
        String head = AB + "person p age 1 born ";
        String tail = " at a to a price 0;";
        check.sound(head + "a" + tail, 3);
        check.sound(head + "a b" + tail, 3);
        check.sound(head + "b a" + tail, 3);
        check.fault(head + "a a" + tail, 3, head.length() + 2);
        check.fault(head + "b b" + tail, 3, head.length() + 2);
        check.is("at one", Check.of(head + "b" + tail).person(0, 2), NONE);
        check.is("the second one", Check.of(head + "b a" + tail).person(0, 2), 0);
        check.sound(head + "a at a to a price 0;", 3);
    }

    @Says("a third NAME behind born, an OWN WORD but at there, at its first byte")
    void p05_aThirdNameBehindBorn() {
        String head = Lines.stations(3) + "person p age 1 born ";
        for (String third : new String[] {"c", "a", "x", "p", "abcdef", "to", "price", "born", "person", "station", "5",
            ";"}) {
            check.fault(head + "a b " + third + " at a to a price 0;", 1, head.length() + 4);
        }
        for (String second : new String[] {"to", "price", "born", "age", "person", "station", "stop", "train", "from",
            "seats", "calls",
            "after", "5", ";"}) {
            check.fault(head + "a " + second + " at a to a price 0;", 1, head.length() + 2);
        }
        check.fault(head + "a x at a to a price 0;", 3, head.length() + 2);
        check.fault(head + "a p at a to a price 0;", 3, head.length() + 2);
        check.fault(head + "a b abcdefg", 1, head.length() + 10);
        check.fault(head + "at a", 1, head.length());
    }

    @Says({"NAMES: 1 to 6 letters", "a 7th letter of what is no OWN WORD, a 5th digit at itself, whatever may stand there"})
    void p05_namesHave1To6Letters() {
        for (String name : new String[] {"a", "z", "ab", "abcde", "zyxwvu", "aaaaaa"}) {
            check.sound("station " + name + ";", 1);
        }
        check.fault("station ;", 1, 8);
        check.fault("station abcdefg;", 1, 14);
        check.fault("station abcdefgh;", 1, 14);
        check.fault("station " + "a".repeat(1592), 1, 14);
        for (String text : new String[] {"", "station ", "station a ", "stop ", "stop 5 ", "train ", "train t ",
            "train t from 1 seats ",
            AB + "train t from 1 seats 1 calls a after 1 b ", AB + "person p age 1 born a ", AB
                + "person p age 1 born a b at a to b "}) {
            check.fault(text + "abcdefg", 1, text.length() + 6);
            check.fault(text + "stations", 1, text.length() + 6);
            check.fault(text + "personx", 1, text.length() + 6);
            check.fault(text + "12345", 1, text.length() + 4);
            check.fault(text + "00000", 1, text.length() + 4);
        }
    }

    @Says("NUMBERS: 1 to 4 digits.")
    void p05_numbersHave1To4Digits() {
        for (String number : new String[] {"7", "07", "007", "0007"}) {
            check.is("stop " + number, Check.of("stop " + number + ";").has(5), 7);
        }
        check.fault("stop 00007;", 1, 9);
        check.fault("stop 000007;", 1, 9);
        check.fault("stop 12345;", 1, 9);
        check.fault("stop 1234;", 4, 5);
        check.fault("stop ;", 1, 5);
        check.fault("stop " + "0".repeat(1595), 1, 9);
        check.is("four digits", Check.of(AB + Lines.train("t", 1439, 1, "a after 1 b")).train(0, 0), 1439);
    }

    @Says({"unlike ones (of all sorts)", "2 a NAME to be given that is there already, at its first byte"})
    void p05_noNameIsGivenTwice() {
        String[] given = {"station x;", Lines.train("x", 0, 1, "a after 1 b"), Lines.person("x", 1, "a", "a", "a", 0)};
        String[] ahead = {"station ", "train ", "person "};
        String[] behind = {";", " from 0 seats 1 calls a after 1 b;", " age 1 born a at a to a price 0;"};
        for (String there : given) {
            for (int kind = 0; kind < 3; kind++) {
                String text = AB + there + ahead[kind];
                check.fault(text + "x" + behind[kind], 2, text.length());
                check.fault(text + "\nx", 2, text.length() + 1);
                check.sound(text + "xx" + behind[kind], 4);
                check.sound(text + "y" + behind[kind], 4);
            }
        }
        StringBuilder all = new StringBuilder(AB);
        for (int t = 0; t < 6; t++) {
            all.append(Lines.train("t" + Lines.place(t), 0, 1, "a after 1 b"));
        }
        all.append(Lines.people(9, 1, "a", "a", "a", 0));
        for (String there : new String[] {"a", "b", "ta", "tf", "pa", "pi"}) {
            check.fault(all + "person " + there + " age", 2, all.length() + 7);
            check.fault(all + "station " + there + ";", 2, all.length() + 8);
        }
        BornAboard x = Check.of(Lines.stations(14) + all.substring(AB.length()));
        check.is("a line's names go with it", Check.tell(x, "station ta;station n;station pi;station tf;station c;"), 5);
        String six = "station abcdef;station abcde;station bcdef;station abcdeg;";
        check.sound(six, 4);
        check.fault(six + "station abcdef;", 2, six.length() + 8);
        check.sound("station a;station aa;station aaa;station aaaa;station aaaaa;station aaaaaa;", 6);
    }

    @Says({"told ahead of where they are asked.", "3 a NAME that is none of what is asked"})
    void p05_onlyStationsToldAheadAreAsked() {
        String t = AB + Lines.train("t", 0, 1, "a after 1 b") + Lines.person("p", 1, "a", "a", "a", 0);
        String[] asks = {"train us from 0 seats 1 calls ", "train us from 0 seats 1 calls a after 1 ", "person q age 1 born ",
            "person q age 1 born a ", "person q age 1 born a at ", "person q age 1 born a b at ",
                "person q age 1 born a at a to "};
        String[] rests = {" after 1 b;", ";", " at a to a price 0;", " at a to a price 0;", " to a price 0;",
            " to a price 0;", " price 0;"};
        for (int k = 0; k < asks.length; k++) {
            String text = t + asks[k];
            for (String none : new String[] {"t", "p", "c", "aa", "us", "q", "zzzzzz"}) {
                check.fault(text + none + rests[k] + "station c;", 3, text.length());
            }
            check.sound(t + "station c;" + asks[k] + "c" + rests[k], 6);
        }
    }

    @Says({"an OWN WORD where a NAME must be",
        "OWN WORDS, which no NAME is: station, stop, train, from, seats, calls, after, person, age, born, at, to, price."})
    void p05_noNameIsAnOwnWord() {
        for (String own : new String[] {"station", "stop", "train", "from", "seats", "calls", "after", "person", "age",
            "born", "at", "to",
            "price"}) {
            for (String text : new String[] {"station ", "train ", "person ", AB + "train t from 1 seats 1 calls ",
                AB + "train t from 1 seats 1 calls a after 1 ", AB + "person p age 1 born ", AB + "person p age 1 born a at ",
                AB + "person p age 1 born a at a to "}) {
                check.fault(text + own + ";", 1, text.length());
            }
            String shorter = own.substring(0, own.length() - 1);
            check.sound("station " + shorter + ";", 1);
            String longer = own + "s";
            if (longer.length() <= 6) {
                check.sound("station " + longer + ";", 1);
            }
        }
    }

    /** The words, numbers and semicolons of a line with every kind of statement. */
    private static String[] things() {
        String text = AB + "stop 5;" + Lines.train("t", 1, 2, "a after 3 b") + Lines.person("p", 4, "a b", "a", "b", 6);
        return text.replace(";", " ; ").split(" +");
    }

    @Says("Blanks (10, 32) are where one likes")
    void p05_blanksAreWhereOneLikes() {
        String[] things = things();
        for (String blank : new String[] {" ", "\n", "  ", "\n\n", " \n ", "\n \n"}) {
            check.sound(String.join(blank, things), 5);
            check.sound(blank + String.join(blank, things) + blank, 5);
            check.sound(String.join(blank, things).replace(blank + ";" + blank, ";"), 5);
        }
        check.sound(" ".repeat(1590) + "station a;", 1);
        check.sound("station a;" + "\n".repeat(1590), 1);
        check.sound("station" + " ".repeat(1591) + "a;", 1);
    }

    @Says({"Blanks (10, 32) are where one likes", "1 the first byte with which no LINE goes on"})
    void p05_eachByteIsALetterADigitABlankOrNothing() {
        for (int b = 0; b < 256; b++) {
            String c = String.valueOf((char) b);
            boolean letter = b >= 97 && b <= 122;
            boolean digit = b >= 48 && b <= 57;
            boolean blank = b == 10 || b == 32;
            expect(c, blank, 0, 0);
            expect("station q" + c + ";", letter || blank, 1, b == ';' ? 10 : 9);
            expect("station " + c + "q;", letter || blank, 1, 8);
            expect("stop 1" + c + ";", digit || blank, 1, b == ';' ? 7 : 6);
            expect(AB + "person p age " + c + "1 born a at a to a price 0;", digit || blank, 3, AB.length() + 13);
            expect("stop" + c + "7;", blank, 1, letter ? 0 : 4);
            expect("stop 7;" + c, blank, 1, 7);
        }
    }

    /** Sound with so many statements, or FAULT 1 at a place. */
    private void expect(String text, boolean isSound, int statements, int place) {
        if (isSound) {
            check.sound(text, statements);
        } else {
            check.fault(text, 1, place);
        }
    }

    @Says("(words and numbers side by side need one)")
    void p05_wordsAndNumbersNeedABlankBetween() {
        String[] texts = {"stop|5;", "stop 5|stop 6;", "train t from|5 seats", "train t from 5|seats 5",
            "train t from 5 seats|5 calls",
            AB + "train t from 5 seats 5|calls a", AB + "train t from 5 seats 5 calls a after|5 b", "station a|5;",
            AB + "train t from 5 seats 5 calls a after 5|b;", "person p age|5 born", AB + "person p age 5|born a",
            AB + "person p age 5 born a at a to a price|5;", AB
                + "person p age 5 born a|5 at", "train t from 5|abcdefgh", "stop|12345;"};
        for (String text : texts) {
            check.fault(text.replace("|", ""), 1, text.indexOf('|'));
        }
        check.fault("stop 5 12;", 1, 7);
        check.fault("stationa;", 1, 6);
        check.fault("stopx 5;", 1, 0);
        check.fault(AB + "train t from 5 seats 5 calls aafter 5 b;", 3, AB.length() + 29);
        check.sound("stop 5;stop 6;station a;", 3);
    }

    @Says("at the text's length, if it ends too soon")
    void p05_aTextThatEndsTooSoon() {
        StringBuilder text = new StringBuilder();
        int statements = 0;
        for (String thing : things()) {
            text.append(text.length() == 0 ? "" : " ").append(thing);
            if (thing.equals(";")) {
                statements++;
                check.sound(text.toString(), statements);
                check.sound(text + "\n", statements);
            } else {
                check.fault(text.toString(), 1, text.length());
                check.fault(text + " ", 1, text.length() + 1);
                check.fault(text + " \n\n", 1, text.length() + 3);
            }
        }
        String long1600 = "station a;" + " ".repeat(1586) + "stop";
        check.fault(long1600, 1, 1600);
    }

    @Says("words and numbers whole, at their first byte")
    void p05_wordsAndNumbersAreToldWhole() {
        for (String word : new String[] {"s", "st", "stati", "statio", "sto", "stops", "tr", "x", "from", "a", "1", "12",
            "1234"}) {
            check.fault(word, 1, 0);
            check.fault("stop 5;" + word, 1, 7);
            check.fault("stop 5;\n" + word + " a;", 1, 8);
        }
        check.fault("train t fro", 1, 8);
        check.fault("train t fromx 5", 1, 8);
        check.fault("train t from 5 seat 5", 1, 15);
        check.fault("station ab cd;", 1, 11);
        check.fault("stop 5 67;", 1, 7);
        check.fault("station 12;", 1, 8);
        check.fault("stop ab;", 1, 5);
    }

    @Says("FAULTS, the first along the text")
    void p05_theFirstFaultAlongTheText() {
        check.fault("stop 31;foo;", 4, 5);
        check.fault("foo;stop 31;", 1, 0);
        check.fault("station a;station a;stop 31;", 2, 18);
        check.fault("stop 0;station a;station a;", 4, 5);
        check.fault(AB + "person p age 100 born x at", 4, AB.length() + 13);
        check.fault(AB + "person p age 99 born x at y to z price 100;", 3, AB.length() + 21);
        check.fault(AB + "person a age 100", 2, AB.length() + 7);
        check.fault(Lines.stations(14) + "station abcdefg;", 5, Lines.stations(14).length());
        check.fault("station abcdefg" + (char) 200, 1, 14);
        check.fault("stop 31abcdefg", 4, 5);
    }
}
