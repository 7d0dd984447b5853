/** Promises 21 to 23 and 35: whom to hire. */
public final class HiringTest {
    private final Check check = new Check();

    public static void main(String[] args) {
        HiringTest test = new HiringTest();
        test.least();
        test.ties();
        test.fewOrCheap();
        test.most();
        test.places();
        test.both();
        test.staysFresh();
        test.check.finish();
    }

    private void least() {
        BornAboard x = Check.of(Lines.GUIDES);
        check.is("least(0, 0)", x.least(0, 0), 4);
        check.is("least(0, 1)", x.least(0, 1), 8);
        check.is("y is there, not hired", x.least(3, 0), 0);
        check.is("y's bits", x.least(3, 1), 0);
        check.is("nobody", x.least(5, 0), -1);
        check.is("person -1", x.least(-1, 0), -1);
        check.is("what 2", x.least(0, 2), -1);
        check.is("what -1", x.least(0, -1), -1);
        x.wish(4, 0);
        check.is("z gets nowhere", x.least(4, 0), -1);
        check.is("z's bits", x.least(4, 1), -1);
        x.hiring(12);
        check.is("who is hired now is of no account", x.least(0, 1), 8);
        check.is("hired now, not in it", x.least(3, 1), 0);
    }

    private void ties() {
        String like = Lines.GUIDES.replace("price 5", "price 4");
        BornAboard x = Check.of(like);
        check.is("of like COIN the least bits", x.least(0, 1), 4);
        check.is("most, the least bits", x.most(2), 4);
        check.is("places, the least bits", x.places(2), 4);
        check.is("both, the least bits", x.both(0, 1, 1), 4);
    }

    /** One dear guide for b, at which w gets on, who makes it stop at c; or a cheap guide for each. */
    private void fewOrCheap() {
        BornAboard x = Check.of("station a;station b;station c;station d;station e;station f;"
            + "train t from 0 seats 9 calls a after 5 b after 5 c after 5 d;"
            + "train us from 100 seats 9 calls e after 5 b after 5 a;"
            + "person dear age 1 born b at a to a price 99;"
            + "person one age 1 born b at e to e price 1;"
            + "person two age 1 born c at a to a price 1;"
            + "person w age 1 born c at b to d price 0;"
            + "person p age 1 born d at a to c price 0;");
        check.is("the fewest people", x.places(0), 1);
        check.is("the COIN", x.places(1), 99);
        check.is("the bits", x.places(2), 1);
        check.is("the least COIN", x.least(4, 0), 1);
        check.is("the bits", x.least(4, 1), 4);
        check.is("w needs a stop at b", x.least(3, 1), 1);
        check.is("both need dear alone", x.both(3, 4, 0), 99);
        // dear not hired is content; two hired brings p, loses two; one hired brings nobody.
        check.is("GOOD at most", x.most(0), 4);
        check.is("its bits", x.most(2), 1);
    }

    private void most() {
        BornAboard x = Check.of(Lines.GUIDES);
        check.is("most(0)", x.most(0), 4);
        check.is("most(1)", x.most(1), 4);
        check.is("most(2)", x.most(2), 8);
        check.is("most(3)", x.most(3), -1);
        check.is("most(-1)", x.most(-1), -1);
        BornAboard only = Check.of(Lines.GUIDES.replace("price 5", "price 0").replace("price 2", "price 0"));
        check.is("the only one who can be hired", only.most(2), 8);
        x.move(1, 1);
        // Now o is at b: hiring y would gain p and lose y.
        check.is("of like ones the least COIN", x.most(2), 0);
        check.is("how many", x.most(0), 4);
    }

    private void places() {
        BornAboard x = Check.of(Lines.GUIDES);
        check.is("places(0)", x.places(0), 1);
        check.is("places(1)", x.places(1), 4);
        check.is("places(2)", x.places(2), 8);
        check.is("places(3)", x.places(3), -1);
        check.is("places(-1)", x.places(-1), -1);
        x.move(2, 2);
        x.move(3, 2);
        check.is("no guide where the train starts", x.places(0), -1);
        check.is("places(2) then", x.places(2), -1);
        // A station at which no train calls does not matter; b is the first one of a train.
        BornAboard y = Check.of("station a;station b;station c;station d;station e;"
            + "train t from 0 seats 5 calls a after 5 b after 5 c;train us from 50 seats 5 calls b after 5 a after 5 d;"
            + "person dear age 1 born b at a to e price 99;person one age 1 born b at a to e price 1;");
        check.is("how many", y.places(0), 0);
        check.is("nobody", y.places(2), 0);
    }

    private void both() {
        BornAboard x = Check.of(Lines.GUIDES);
        check.is("both(0, 1, 0)", x.both(0, 1, 0), 4);
        check.is("both(1, 0, 1)", x.both(1, 0, 1), 8);
        check.is("p and y: x must go", x.both(0, 3, 0), 5);
        check.is("their bits", x.both(0, 3, 1), 4);
        check.is("x and y", x.both(2, 3, 0), 0);
        check.is("it is one", x.both(0, 0, 0), -1);
        check.is("no two", x.both(0, 5, 0), -1);
        check.is("no two", x.both(5, 0, 0), -1);
        check.is("no two", x.both(-1, 0, 0), -1);
        check.is("no two", x.both(0, -1, 0), -1);
        check.is("what 2", x.both(0, 1, 2), -1);
        check.is("what -1", x.both(0, 1, -1), -1);
        x.wish(4, 0);
        check.is("no HIRING", x.both(0, 4, 0), -1);
        check.is("its bits", x.both(0, 4, 1), -1);
    }

    /** What is known of the hirings goes with every change. */
    private void staysFresh() {
        BornAboard x = Check.of(Lines.GUIDES);
        check.is("ahead", x.least(0, 0), 4);
        x.wish(0, 0);
        check.is("behind wish", x.least(0, 0), 0);
        x.undo();
        check.is("behind undo", x.least(0, 0), 4);
        x.move(3, 1);
        check.is("behind move", x.least(0, 0), 5);
        x.image();
        int[] bytes = new int[x.image()];
        for (int k = 0; k < bytes.length; k++) {
            bytes[k] = x.octet(k);
        }
        x.undo();
        check.is("behind undo", x.least(0, 0), 4);
        Check.put(x, bytes);
        check.is("on()", x.on(), true);
        check.is("behind on", x.least(0, 0), 5);
        x.day();
        check.is("behind a day p is at c", x.least(0, 0), -1);
        x.undo();
        x.years(1);
        check.is("behind a year, too", x.least(0, 0), -1);
        Check.tell(x, Lines.GUIDES);
        check.is("behind line", x.least(0, 0), 4);
        x.runs(3, 3, 0, 0);
        check.is("behind runs", x.least(0, 0), 4);
        x.settles(0);
        check.is("behind settles", x.least(0, 0), 4);
    }
}
