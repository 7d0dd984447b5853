import java.util.Arrays;

/** The edges of promises 36 to 39: images, and how many calls were refused. */
public final class EdgesOfImagesTest extends Edges {
    /** Fourteen stations, three people: p has no price. */
    private static final String LINE = Lines.stations(14) + Lines.person("p", 7, "a", "b", "c", 0)
        + Lines.person("q", 8, "b c", "d", "e", 1)
        + Lines.person("r", 9, "n", "n", "n", 99);

    public static void main(String[] args) {
        new EdgesOfImagesTest().runAll();
    }

    private void octetsAre(BornAboard x, int... due) {
        row("octet", x::octet, due);
        check.is("octet behind the last one", x.octet(due.length), NONE);
    }

    // ---- promise 36

    @Says({"AN IMAGE is written: how many bytes.", "last a byte: all ahead from 67 on, c = (5 c + it) mod 249."})
    void p36_ofNobodyAndOfTen() {
        BornAboard x = new BornAboard();
        check.is("of nobody", x.image(), 3);
        octetsAre(x, 0, 0, 181);
        Check.tell(x, LINE);
        x.hire(2, true);
        check.is("of three", x.image(), 21);
        octetsAre(x, Check.sealed(0, 0, 7, 1, 0, 1, 2, 0, 8, 2, 3, 3, 4, 0, 9, 14, 0, 13, 13, 1));
        BornAboard ten = Check.of(Lines.stations(14) + Lines.people(10, 99, "n m", "n", "n", 99));
        ten.hiring(1023);
        check.is("of ten", ten.image(), 63);
        int[] due = new int[62];
        for (int p = 0; p < 10; p++) {
            System.arraycopy(new int[] {99, 14, 13, 13, 13, 1}, 0, due, 2 + 6 * p, 6);
        }
        octetsAre(ten, Check.sealed(due));
    }

    @Says("AN IMAGE: YEAR (two bytes, the higher first)")
    void p36_yearsOfTwoBytes() {
        int[][] rows = {{0, 0, 0}, {1, 0, 1}, {255, 0, 255}, {256, 1, 0}, {257, 1, 1}, {511, 1, 255}, {512, 2, 0}, {9983, 38,
            255}, {9984, 39, 0},
            {9999, 39, 15}};
        for (int[] row : rows) {
            BornAboard x = new BornAboard();
            Check.toYear(x, row[0]);
            check.is("YEAR", x.has(6), row[0]);
            x.image();
            octetsAre(x, Check.sealed(row[1], row[2]));
        }
        BornAboard y = new BornAboard();
        Check.toYear(y, 240);
        y.years(20);
        y.image();
        octetsAre(y, Check.sealed(1, 4));
    }

    @Says("for each of the people age, born (a STATION's number and 1), the second one (0 without), at, to, 1 if hired, "
        + "else 0")
    void p36_firstAndLastStations() {
        BornAboard x = Check.of(Lines.stations(14) + Lines.person("p", 0, "a", "a", "a", 1)
            + Lines.person("q", 99, "n a", "n", "n", 1)
            + Lines.person("r", 1, "a n", "a", "n", 1));
        x.hire(1, true);
        x.image();
        octetsAre(x, Check.sealed(0, 0, 0, 1, 0, 0, 0, 0, 99, 14, 1, 13, 13, 1, 1, 1, 14, 0, 13, 0));
    }

    // ---- promise 37

    @Says("Byte k of the latest image(); NONE when there is none such.")
    void p37_octets() {
        BornAboard x = new BornAboard();
        check.is("ahead of any", x.octet(0), NONE);
        noneOutside("octet ahead of any", 0, x::octet);
        x.image();
        noneOutside("octet of 3", 2, x::octet);
        check.is("the last one", x.octet(2), 181);
        Check.tell(x, LINE);
        check.is("of the latest still", x.octet(2), 181);
        check.is("and no more", x.octet(3), NONE);
        x.image();
        noneOutside("octet of 21", 20, x::octet);
        int last = x.octet(20);
        x.wish(0, 0);
        x.years(1);
        check.is("of the latest still", x.octet(20), last);
        check.is("its wish", x.octet(6), 2);
        x.line();
        check.is("behind another line, too", x.octet(6), 2);
        x.image();
        check.is("a shorter one", x.octet(3), NONE);
        check.is("its last byte", x.octet(2), 181);
        BornAboard ten = Check.of(FullTest.full());
        ten.image();
        noneOutside("octet of 63", 62, ten::octet);
        check.is("the last of 63", ten.octet(62) != NONE, true);
        onlyAsks("octet", y -> {
            y.octet(0);
            y.octet(63);
        });
    }

    // ---- promise 38

    /** YEAR 300 of the people of LINE, r hired. */
    private static int[] plain() {
        return new int[] {1, 44, 7, 1, 0, 1, 2, 0, 8, 2, 3, 3, 4, 0, 9, 14, 0, 13, 13, 1};
    }

    /** Other bytes at some places: place, byte, place, byte. */
    private static int[] with(int... changes) {
        int[] bytes = plain();
        for (int k = 0; k < changes.length; k += 2) {
            bytes[changes[k]] = changes[k + 1];
        }
        return Check.sealed(bytes);
    }

    private static Calls ahead(int... bytes) {
        return x -> {
            Check.tell(x, LINE);
            x.hire(1, true);
            x.wish(0, 5);
            x.seed(99);
            x.image();
            Check.put(x, bytes);
        };
    }

    private void taken(String what, int... bytes) {
        BornAboard x = new BornAboard();
        ahead(bytes).on(x);
        check.is(what, x.on(), true);
        check.is(what + ": YEAR", x.has(6), bytes[0] * 256 + bytes[1]);
        int hired = bytes[7] + bytes[13] + bytes[19];
        check.is(what + ": hired", x.has(3), hired);
        check.is(what + ": COIN", x.has(4), bytes[13] + 99 * bytes[19]);
        check.is(what + ": acts", x.has(8), 0);
        check.is(what + ": undo()", x.undo(), false);
        check.is(what + ": the seed stays", x.has(9), 99);
        check.is(what + ": the tape went", x.end(1), false);
        check.is(what + ": refused", x.status(5), 0);
        check.is(what + ": image()", x.image(), bytes.length);
        octetsAre(x, bytes);
    }

    private void notTaken(String what, int... bytes) {
        BornAboard x = new BornAboard();
        ahead(bytes).on(x);
        check.is(what, x.on(), false);
        changesOnly(what, ahead(bytes), BornAboard::on, y -> y.end(0), SEED);
    }

    @Says("The tape (it goes) is AN IMAGE of this LINE: true, YEAR and PEOPLE are as it tells, no ACT can be undone")
    void p38_anImageIsTaken() {
        taken("plain", Check.sealed(plain()));
        BornAboard x = new BornAboard();
        ahead(Check.sealed(plain())).on(x);
        x.on();
        row("p", what -> x.person(0, what), 7, 0, NONE, 1, 2, 0, 0);
        row("q", what -> x.person(1, what), 8, 1, 2, 3, 4, 1, 0);
        row("r", what -> x.person(2, what), 9, 13, NONE, 13, 13, 99, 1);
        BornAboard nobody = new BornAboard();
        Check.put(nobody, Check.sealed(0, 0));
        check.is("of nobody", nobody.on(), true);
        check.is("the tape went", nobody.on(), false);
    }

    @Says("The tape (it goes) is AN IMAGE of this LINE: true, YEAR and PEOPLE are as it tells, no ACT can be undone")
    void p38_anImageOfTen() {
        BornAboard x = Check.of(Lines.stations(14) + Lines.people(10, 99, "n m", "n", "n", 99));
        x.hiring(1023);
        int[] all = Check.image(x);
        x.hiring(512);
        x.move(9, 0);
        Check.put(x, Check.sealed(all));
        check.is("on()", x.on(), true);
        check.is("hired", x.has(3), 10);
        check.is("COIN", x.has(4), 990);
        check.is("the tenth is where he was", x.person(9, 3), 13);
        all[61] = 0;
        Check.put(x, Check.sealed(all));
        check.is("on()", x.on(), true);
        check.is("hired", x.has(3), 9);
        check.is("the tenth is not", x.person(9, 6), 0);
        all[61] = 2;
        Check.put(x, Check.sealed(all));
        check.is("on() with a 2", x.on(), false);
        check.is("hired still", x.has(3), 9);
    }

    @Says("false, refused (5), all staying, if it is none such")
    void p38_noImage() {
        notTaken("nothing");
        int[] sealed = Check.sealed(plain());
        for (int n : new int[] {1, 2, 3, 19, 20}) {
            notTaken(n + " bytes", Arrays.copyOf(sealed, n));
        }
        notTaken("a byte more", Arrays.copyOf(sealed, 22));
        for (int last = 0; last < 256; last++) {
            if (last != sealed[20]) {
                int[] other = sealed.clone();
                other[20] = last;
                BornAboard x = new BornAboard();
                ahead(other).on(x);
                check.is("the last byte is " + last, x.on(), false);
            }
        }
        int[] other = sealed.clone();
        other[20]++;
        notTaken("another last byte", other);
        for (int k = 0; k < 20; k++) {
            int[] swayed = sealed.clone();
            swayed[k] ^= 1;
            BornAboard x = new BornAboard();
            ahead(swayed).on(x);
            check.is("byte " + k + " is another one", x.on(), false);
        }
    }

    @Says("YEAR 9999 at most")
    void p38_yearsTo9999() {
        taken("YEAR 0", with(0, 0, 1, 0));
        taken("YEAR 9998", with(0, 39, 1, 14));
        taken("YEAR 9999", with(0, 39, 1, 15));
        notTaken("YEAR 10000", with(0, 39, 1, 16));
        notTaken("YEAR 10239", with(0, 39, 1, 255));
        notTaken("YEAR 10240", with(0, 40, 1, 0));
        notTaken("YEAR 65535", with(0, 255, 1, 255));
    }

    @Says("as many PEOPLE")
    void p38_asManyPeople() {
        notTaken("one fewer", Check.sealed(Arrays.copyOf(plain(), 14)));
        notTaken("nobody", Check.sealed(0, 0));
        int[] more = Arrays.copyOf(plain(), 26);
        System.arraycopy(plain(), 2, more, 20, 6);
        notTaken("one more", Check.sealed(more));
        BornAboard x = new BornAboard();
        Check.put(x, Check.sealed(0, 0, 1, 1, 0, 0, 0, 0));
        check.is("one more than nobody", x.on(), false);
    }

    @Says("ages 99 at most")
    void p38_agesTo99() {
        for (int k = 2; k < 20; k += 6) {
            taken("age 0", with(k, 0));
            taken("age 98", with(k, 98));
            taken("age 99", with(k, 99));
            notTaken("age 100", with(k, 100));
            notTaken("age 255", with(k, 255));
        }
    }

    @Says("STATIONS that there are (born: two unlike ones, or one)")
    void p38_stationsThatThereAre() {
        for (int k = 2; k < 20; k += 6) {
            taken("born at the first", with(k + 1, 1, k + 2, 0));
            taken("born at the last", with(k + 1, 14, k + 2, 0));
            taken("born between the last and the first", with(k + 1, 14, k + 2, 1));
            taken("born between the first and the last", with(k + 1, 1, k + 2, 14));
            notTaken("born nowhere", with(k + 1, 0, k + 2, 0));
            notTaken("born nowhere and at one", with(k + 1, 0, k + 2, 1));
            notTaken("born beyond the last", with(k + 1, 15, k + 2, 0));
            notTaken("born at 255", with(k + 1, 255, k + 2, 0));
            notTaken("the second beyond the last", with(k + 1, 1, k + 2, 15));
            notTaken("the second 255", with(k + 1, 1, k + 2, 255));
            notTaken("the first twice", with(k + 1, 1, k + 2, 1));
            notTaken("the last twice", with(k + 1, 14, k + 2, 14));
            for (int place = k + 3; place <= k + 4; place++) {
                taken("at or to the first", with(place, 0));
                taken("at or to the last", with(place, 13));
                notTaken("at or to one beyond", with(place, 14));
                notTaken("at or to 255", with(place, 255));
            }
        }
        // With one STATION.
        String one = "station a;" + Lines.person("p", 1, "a", "a", "a", 0);
        int[][] rows = {{0, 0, 1, 1, 0, 0, 0, 0, 1}, {0, 0, 1, 1, 1, 0, 0, 0, 0}, {0, 0, 1, 2, 0, 0, 0, 0, 0}, {0, 0, 1, 1, 2,
            0, 0, 0, 0},
            {0, 0, 1, 1, 0, 1, 0, 0, 0}, {0, 0, 1, 1, 0, 0, 1, 0, 0}};
        for (int[] row : rows) {
            BornAboard x = Check.of(one);
            Check.put(x, Check.sealed(Arrays.copyOf(row, 8)));
            check.is("with one STATION " + Arrays.toString(row), x.on(), row[8] == 1);
        }
    }

    @Says("0 or 1 as told, hired only with a price.")
    void p38_hiredOrNot() {
        notTaken("hired without a price", with(7, 1));
        taken("not hired without a price", with(7, 0));
        taken("hired with price 1", with(13, 1));
        taken("not hired with price 99", with(19, 0));
        for (int k : new int[] {7, 13, 19}) {
            notTaken("2", with(k, 2));
            notTaken("3", with(k, 3));
            notTaken("255", with(k, 255));
        }
    }

    // ---- promise 39

    @Says("How many were refused: 0 feed(), end(); 1 line(); 2 hire(), wish(), move(), hiring(); 3 years(); 4 undo(); 5 "
        + "seed(), on(). NONE for others.")
    void p39_eachIsCountedApart() {
        BornAboard x = new BornAboard();
        noneOutside("status of a new one", 5, x::status);
        Calls[][] calls = {{y -> y.end(-1), y -> y.end(1)}, {y -> Check.tell(y, "x")},
            {y -> y.hire(0, true), y -> y.wish(0, 0), y -> y.move(0, 0), y -> y.hiring(1)}, {y -> y.years(0)},
                {BornAboard::undo},
            {y -> y.seed(-1), BornAboard::on}};
        int[] due = new int[6];
        row("at first", x::status, due);
        for (int round = 0; round < 3; round++) {
            for (int kind = 0; kind < 6; kind++) {
                for (Calls call : calls[kind]) {
                    call.on(x);
                    due[kind]++;
                    row("status", x::status, due);
                }
            }
        }
        noneOutside("status", 5, x::status);
        Check.tell(x, LINE);
        row("behind a line", x::status, due);
        x.hire(1, true);
        x.undo();
        x.day();
        x.years(1);
        x.seed(1);
        Check.toYear(x, 5);
        row("behind what was not refused", x::status, due);
        onlyAsks("status", y -> {
            y.status(0);
            y.status(6);
        });
    }

    @Says("How many were refused: 0 feed(), end()")
    void p39_aFullTapeIsCountedToo() {
        BornAboard x = new BornAboard();
        for (int n = 0; n < 83; n++) {
            x.feed(0, 0, 0, 0, 0);
        }
        check.is("three were refused", x.status(0), 3);
        for (int n = 0; n < 300; n++) {
            x.undo();
        }
        check.is("as many as there were", x.status(4), 300);
    }

    @Says("NONE for others.")
    void p39_questionsAreNotCounted() {
        BornAboard x = started();
        x.has(11);
        x.letter(3, 0, 0);
        x.station(4, 0);
        x.train(2, 0);
        x.person(3, 0);
        x.fault(2);
        x.stops(2, 0, 0);
        x.fares(3, 0);
        x.whole(6);
        x.least(3, 0);
        x.most(3);
        x.places(3);
        x.worth(3);
        x.bear(3, 0);
        x.stay(3);
        x.seen(2, 0, 0);
        x.dead(9);
        x.runs(0, 0, 0, 0);
        x.because(2, 0);
        x.left(2, 0);
        x.child(3, 0, 0);
        x.settles(4);
        x.both(0, 0, 0);
        x.octet(99);
        x.status(6);
        row("status", x::status, 0, 1, 0, 0, 0, 0);
    }
}
