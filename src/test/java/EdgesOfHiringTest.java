/** The edges of promises 21 to 23 and 35: whom to hire. */
public final class EdgesOfHiringTest extends Edges {
    /**
     * p and n, at a, wish to be at g. Only all six guides bring the train to stop there: each of them gets on where the
     * one ahead was born. The guides, numbers 4 to 9, wish to be at i, where no train calls.
     */
    private static final String CHAIN = chain(99);
    /** p wishes to be at c: y and z together bring him there, or x alone. */
    private static final String ONE_OR_TWO = Lines.stations(5) + Lines.train("t", 0, 9, "a after 1 b after 1 c after 1 d")
        + Lines.person("p", 1, "d", "a", "c", 0);

    public static void main(String[] args) {
        new EdgesOfHiringTest().runAll();
    }

    private static String chain(int lastPrice) {
        StringBuilder text = new StringBuilder(Lines.stations(9)
            + Lines.train("t", 0, 12, "a after 1 b after 1 c after 1 d after 1 e after 1 f after 1 g after 1 h")
            + Lines.person("p", 1, "h", "a", "g", 0) + Lines.person("o", 1, "h", "a", "h", 0)
            + Lines.person("n", 1, "h", "a", "g", 1)
            + Lines.person("m", 1, "h", "h", "h", 0));
        for (int g = 0; g < 6; g++) {
            text.append(Lines.person("g" + Lines.place(g), 1, "" + Lines.place(g + 1), ""
                + Lines.place(g), "i", g == 5 ? lastPrice : 99));
        }
        return text.toString();
    }

    private static String guide(String name, String born, String at, int price) {
        return Lines.person(name, 1, born, at, "e", price);
    }

    private void leastIs(BornAboard x, int person, int coin, int bits) {
        check.is("least(" + person + ", 0)", x.least(person, 0), coin);
        check.is("least(" + person + ", 1)", x.least(person, 1), bits);
    }

    private void bothAre(BornAboard x, int first, int second, int coin, int bits) {
        check.is("both(" + first + ", " + second + ", 0)", x.both(first, second, 0), coin);
        check.is("both(" + first + ", " + second + ", 1)", x.both(first, second, 1), bits);
        check.is("both(" + second + ", " + first + ", 1)", x.both(second, first, 1), bits);
    }

    // ---- promise 21

    @Says({"TO GET ONE THERE: COIN (what 0), bits (1). NONE when no HIRING does, there is none such, or for others.",
        "its COIN: their prices together."})
    void p21_nobodySixGuidesOrNoHiring() {
        BornAboard x = Check.of(CHAIN);
        leastIs(x, 0, 594, 1008);
        leastIs(x, 1, 0, 0);
        leastIs(x, 2, 594, 1008);
        leastIs(x, 3, 0, 0);
        for (int p = 4; p < 10; p++) {
            leastIs(x, p, NONE, NONE);
        }
        BornAboard without = Check.of(chain(0));
        leastIs(without, 0, NONE, NONE);
        leastIs(without, 1, 0, 0);
        noneOutside("person of ten", 9, p -> x.least(p, 0));
        noneOutside("person of ten", 9, p -> x.least(p, 1));
        noneOutside("what", 1, what -> x.least(0, what));
        noneOutside("what, of who needs nobody", 1, what -> x.least(1, what));
        noneOutside("person of three", 2, p -> Check.of(Lines.SMALL).least(p, 0));
        onlyAsks("least", y -> {
            y.least(0, 0);
            y.least(3, 0);
        });
    }

    @Says("the HIRING with the least COIN by which somebody (not hired in it) is behind the DAY where he wishes to be; of "
        + "like ones the least bits.")
    void p21_theLeastCoinThenTheLeastBits() {
        String y = guide("y", "b", "a", 1);
        String z = guide("z", "c", "b", 1);
        leastIs(Check.of(ONE_OR_TWO + y + z + guide("x", "c", "a", 2)), 0, 2, 6);
        leastIs(Check.of(ONE_OR_TWO + guide("x", "c", "a", 2) + y + z), 0, 2, 2);
        leastIs(Check.of(ONE_OR_TWO + y + z + guide("x", "c", "a", 1)), 0, 1, 8);
        leastIs(Check.of(ONE_OR_TWO + guide("x", "c", "a", 3) + y + z), 0, 2, 12);
        leastIs(Check.of(ONE_OR_TWO + guide("x", "c", "a", 99) + guide("w", "c", "a", 99)), 0, 99, 2);
        leastIs(Check.of(ONE_OR_TWO + guide("x", "c", "a", 99) + guide("w", "c", "a", 98)), 0, 98, 4);
        // Hired he would be carried past; who is hired now is of no account.
        BornAboard x = Check.of(ONE_OR_TWO.replace("price 0", "price 5") + guide("x", "c", "a", 2));
        x.hiring(1);
        leastIs(x, 0, 2, 2);
        BornAboard self = Check.of(Lines.stations(3) + Lines.train("t", 0, 9, "a after 1 b")
            + Lines.person("p", 1, "c", "a", "c", 5)
            + Lines.person("q", 1, "c", "c", "b", 5));
        leastIs(self, 0, NONE, NONE);
        leastIs(self, 1, NONE, NONE);
    }

    /** Somebody without a price is never hired, though he would help for nothing. */
    @Says("HIRING is a set of people (bits) with a price above 0 who are hired (all others are not)")
    void p21_nobodyWithoutAPrice() {
        BornAboard x = Check.of(Lines.stations(5) + Lines.train("t", 0, 9, "a after 1 b after 1 c") + guide("x", "b", "a", 0)
            + Lines.person("p", 1, "d", "a", "b", 0) + guide("w", "d", "d", 9));
        leastIs(x, 1, NONE, NONE);
        bothAre(x, 0, 1, NONE, NONE);
        row("most", x::most, 0, 0, 0);
        row("places", x::places, NONE, NONE, NONE);
        BornAboard y = Check.of(Lines.stations(5) + Lines.train("t", 0, 9, "a after 1 b after 1 c") + guide("x", "b", "a", 1)
            + Lines.person("p", 1, "d", "a", "b", 0) + Lines.person("q", 1, "d", "a", "b", 0));
        leastIs(y, 1, 1, 1);
        bothAre(y, 1, 2, 1, 1);
        row("most", y::most, 2, 1, 1);
        row("places", y::places, 1, 1, 1);
    }

    /** All who have a price must be hired. */
    @Says("HIRING is a set of people (bits) with a price above 0 who are hired (all others are not)")
    void p21_allWhoHaveAPrice() {
        BornAboard x = Check.of(CHAIN.replace("price 1;", "price 0;"));
        leastIs(x, 0, 594, 1008);
        bothAre(x, 0, 2, 594, 1008);
        row("most", x::most, 4, 594, 1008);
        row("places", x::places, 6, 594, 1008);
    }

    /** What was found goes with each change of people or line, and comes again. */
    @Says("All of this is of a DAY from now on, as all is now, but for whom else is said.")
    void p21_asAllIsNow() {
        BornAboard x = Check.of(ONE_OR_TWO + guide("x", "c", "a", 2));
        leastIs(x, 0, 2, 2);
        x.move(1, 1);
        leastIs(x, 0, NONE, NONE);
        row("most", x::most, 0, 0, 0);
        x.undo();
        leastIs(x, 0, 2, 2);
        x.wish(0, 3);
        leastIs(x, 0, 0, 0);
        x.undo();
        row("most", x::most, 1, 2, 2);
        x.hire(1, true);
        leastIs(x, 0, 2, 2);
        x.hiring(0);
        leastIs(x, 0, 2, 2);
        x.day();
        leastIs(x, 0, NONE, NONE);
        x.undo();
        leastIs(x, 0, 2, 2);
        x.years(1);
        leastIs(x, 0, NONE, NONE);
        x.undo();
        int[] image = Check.image(x);
        x.move(1, 1);
        leastIs(x, 0, NONE, NONE);
        Check.put(x, Check.sealed(image));
        x.on();
        leastIs(x, 0, 2, 2);
        row("places", x::places, NONE, NONE, NONE);
        Check.tell(x, Lines.stations(2) + Lines.train("t", 0, 9, "a after 1 b") + Lines.person("p", 1, "a", "a", "b", 0));
        leastIs(x, 0, 0, 0);
        row("places", x::places, 0, 0, 0);
        row("most", x::most, 1, 0, 0);
        String line = Lines.stations(5) + Lines.train("t", 0, 9, "a after 1 b after 1 c");
        String p = Lines.person("p", 1, "d", "a", "b", 0);
        Check.tell(x, line + guide("x", "b", "a", 1) + p + guide("w", "d", "d", 9));
        leastIs(x, 1, 1, 1);
        row("places", x::places, 1, 1, 1);
        row("most", x::most, 1, 1, 1);
        Check.tell(x, line + guide("x", "b", "a", 0) + p + guide("w", "d", "d", 9));
        leastIs(x, 1, NONE, NONE);
        row("places", x::places, NONE, NONE, NONE);
        row("most", x::most, 0, 0, 0);
    }

    @Says("somebody (not hired in it)")
    void p21_whoIsHiredIsNotGotThere() {
        // h has the only seat, whoever is hired.
        BornAboard x = Check.of(Lines.stations(3) + Lines.train("t", 0, 1, "a after 1 b")
            + Lines.person("h", 1, "c", "a", "b", 0)
            + Lines.person("p", 1, "c", "a", "b", 5));
        leastIs(x, 0, 0, 0);
        leastIs(x, 1, NONE, NONE);
        BornAboard there = Check.of(Lines.stations(1) + Lines.person("p", 1, "a", "a", "a", 1));
        there.hire(0, true);
        leastIs(there, 0, 0, 0);
    }

    // ---- promise 22

    @Says("TO GET MOST: how many (what 0), COIN (1), bits (2). NONE for others.")
    void p22_nobodyAndSixGuides() {
        row("of nobody", new BornAboard()::most, 0, 0, 0);
        row("six guides", Check.of(CHAIN)::most, 4, 594, 1008);
        row("with one who can't be hired", Check.of(chain(0))::most, 2, 0, 0);
        row("all ten content", Check.of(Lines.stations(1) + Lines.people(10, 1, "a", "a", "a", 1))::most, 10, 0, 0);
        row("nobody gets there", Check.of(Lines.stations(2) + Lines.people(10, 1, "a", "a", "b", 1))::most, 0, 0, 0);
        noneOutside("what of a new one", 2, new BornAboard()::most);
        noneOutside("what", 2, Check.of(CHAIN)::most);
        onlyAsks("most", x -> {
            x.most(0);
            x.most(3);
        });
    }

    @Says("the HIRING by which the most (not hired in it) are; of like ones the least COIN, then the least bits.")
    void p22_theMostThenTheLeastCoinThenTheLeastBits() {
        row("one more is worth 99", Check.of(ONE_OR_TWO + guide("x", "c", "a", 99))::most, 1, 99, 2);
        row("a cheap one who brings nobody", Check.of(ONE_OR_TWO + guide("x", "c", "a", 99)
            + guide("w", "d", "a", 1))::most, 1, 99, 2);
        row("as many for less", Check.of(ONE_OR_TWO + guide("x", "c", "a", 99) + guide("w", "c", "a", 98))::most, 1, 98, 4);
        row("as dear: the least bits", Check.of(ONE_OR_TWO + guide("x", "c", "a", 98)
            + guide("w", "c", "a", 98))::most, 1, 98, 2);
        row("two as dear as one: the least bits", Check.of(ONE_OR_TWO + guide("y", "b", "a", 1) + guide("z", "c", "b", 1)
            + guide("x", "c", "a", 2))::most, 1, 2, 6);
        // Hired, the guide is where he wishes to be no more: one is gained, one is lost.
        row("as many: nobody", Check.of(ONE_OR_TWO + Lines.person("x", 1, "c", "a", "a", 1))::most, 1, 0, 0);
    }

    // ---- promise 23

    @Says("EACH PLACE: how many people (what 0), COIN (1), bits (2). NONE when no HIRING does, or for others.")
    void p23_nobodySixGuidesOrNoHiring() {
        row("of nobody", new BornAboard()::places, 0, 0, 0);
        row("without TRAINS", Check.of(Lines.stations(14) + Lines.people(10, 1, "a", "a", "a", 1))::places, 0, 0, 0);
        row("two STATIONS", Check.of(Lines.stations(3) + Lines.train("t", 0, 1, "a after 1 b"))::places, 0, 0, 0);
        row("three, nobody", Check.of(Lines.stations(3) + Lines.train("t", 0, 1, "a after 1 b after 1 c"))::places, NONE,
            NONE, NONE);
        row("three, another TRAIN's first", Check.of(Lines.stations(3) + Lines.train("t", 0, 1, "a after 1 b after 1 c")
            + Lines.train("us", 0, 1, "b after 1 a"))::places, 0, 0, 0);
        row("three, another TRAIN's last", Check.of(Lines.stations(3) + Lines.train("t", 0, 1, "a after 1 b after 1 c")
            + Lines.train("us", 0, 1, "a after 1 b"))::places, 0, 0, 0);
        row("six guides", Check.of(CHAIN)::places, 6, 594, 1008);
        row("with one who can't be hired", Check.of(chain(0))::places, NONE, NONE, NONE);
        noneOutside("what of a new one", 2, new BornAboard()::places);
        noneOutside("what", 2, Check.of(CHAIN)::places);
        onlyAsks("places", x -> {
            x.places(0);
            x.places(3);
        });
    }

    @Says("the HIRING with the fewest people by which at each STATION that a TRAIN calls at some TRAIN STOPS; of like ones "
        + "the least COIN, then the least bits.")
    void p23_theFewestThenTheLeastCoinThenTheLeastBits() {
        String line = Lines.stations(5) + Lines.train("t", 0, 9, "a after 1 b after 1 c after 1 d");
        String rider = Lines.person("w", 1, "c", "b", "d", 0);
        // Whoever makes it stop at b lets w get on, who makes it stop at c.
        String two = guide("y", "c", "a", 1) + guide("z", "b", "a", 1);
        row("the cheaper one alone", Check.of(line + guide("x", "b", "a", 99) + rider + two)::places, 1, 1, 8);
        String without = Lines.stations(5) + Lines.train("t", 0, 9, "a after 1 b after 1 c after 1 d")
            + Lines.train("us", 90, 9, "e after 1 b after 1 d");
        row("one dear, not two cheap ones", Check.of(without + guide("x", "b", "a", 99) + rider + guide("y", "c", "a", 1)
            + guide("z", "b", "e", 1))::places, 1, 99, 1);
        row("the dear one last", Check.of(without + rider + guide("y", "c", "a", 1) + guide("z", "b", "e", 1)
            + guide("x", "b", "a", 99))::places, 1, 99, 8);
        row("two, the least COIN", Check.of(line + guide("x", "b", "a", 5) + guide("v", "b", "a", 4) + guide("y", "c", "a", 3)
            + guide("z", "c", "a", 2))::places, 2, 6, 10);
        row("two as dear, the least bits", Check.of(line + guide("x", "b", "a", 5) + guide("v", "b", "a", 5)
            + guide("y", "c", "a", 3)
            + guide("z", "c", "a", 3))::places, 2, 8, 5);
    }

    // ---- promise 35

    @Says({"TO GET BOTH THERE: the HIRING with the least COIN by which two (neither hired in it) are both behind the DAY "
        + "where they wish to be; "
        + "of like ones the least bits: COIN (what 0), bits (1).",
            "NONE when no HIRING does, it is one, there are no two such, or for others."})
    void p35_both() {
        BornAboard x = Check.of(CHAIN);
        bothAre(x, 0, 2, 594, 1008);
        bothAre(x, 1, 3, 0, 0);
        bothAre(x, 0, 1, 594, 1008);
        bothAre(x, 0, 4, NONE, NONE);
        bothAre(x, 8, 9, NONE, NONE);
        for (int p = 0; p < 10; p++) {
            check.is("it is one", x.both(p, p, 0), NONE);
            check.is("it is one", x.both(p, p, 1), NONE);
        }
        noneOutside("the first of ten", 9, p -> x.both(p, 1, 0));
        noneOutside("the second of ten", 9, p -> x.both(1, p, 0));
        noneOutside("both", 9, p -> x.both(p, p, 1));
        noneOutside("what", 1, what -> x.both(0, 2, what));
        noneOutside("what, who need nobody", 1, what -> x.both(1, 3, what));
        onlyAsks("both", y -> {
            y.both(0, 1, 0);
            y.both(0, 0, 0);
            y.both(0, 3, 0);
        });
    }

    @Says("of like ones the least bits: COIN (what 0), bits (1)")
    void p35_theLeastCoinThenTheLeastBits() {
        String two = ONE_OR_TWO + Lines.person("q", 1, "d", "a", "c", 7);
        bothAre(Check.of(two + guide("x", "c", "a", 9) + guide("w", "c", "a", 9)), 0, 1, 9, 4);
        bothAre(Check.of(two + guide("x", "c", "a", 9) + guide("w", "c", "a", 8)), 0, 1, 8, 8);
        // x, who is content not hired, and p: the other guide must go, though he is dearer.
        bothAre(Check.of(two + Lines.person("x", 1, "c", "a", "a", 1) + guide("w", "c", "a", 8)), 0, 2, 8, 8);
    }
}
