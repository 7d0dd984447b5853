/** Promises 1 and 6 to 10: what a new object and a told line have. */
public final class StateTest {
    private final Check check = new Check();

    public static void main(String[] args) {
        StateTest test = new StateTest();
        test.newObject();
        test.counts();
        test.letters();
        test.stations();
        test.trains();
        test.people();
        test.check.finish();
    }

    private void newObject() {
        BornAboard x = new BornAboard();
        check.is("NONE", BornAboard.NONE, -1);
        int[] due = {0, 0, 0, 0, 0, 4, 0, 0, 0, 1, 0};
        for (int what = 0; what <= 10; what++) {
            check.is("has(" + what + ") of a new one", x.has(what), due[what]);
        }
        check.is("letter of none", x.letter(0, 0, 0), -1);
        check.is("station of none", x.station(0, 0), -1);
        check.is("train of none", x.train(0, 0), -1);
        check.is("person of none", x.person(0, 0), -1);
        check.is("stops of none", x.stops(0, 0, 0), -1);
        check.is("settles(0) of nobody", x.settles(0), 1);
        check.is("settles(3) of nobody", x.settles(3), 1);
        check.is("octet ahead of an image", x.octet(0), -1);
        for (int what = 0; what < 6; what++) {
            check.is("status(" + what + ") of a new one", x.status(what), 0);
        }
    }

    private void counts() {
        BornAboard x = Check.of(Lines.TWO_TRAINS);
        int[] due = {5, 2, 4, 0, 0, 5, 0, 2, 0, 1, 0};
        for (int what = 0; what <= 10; what++) {
            check.is("has(" + what + ")", x.has(what), due[what]);
        }
        check.is("has(11)", x.has(11), -1);
        check.is("has(-1)", x.has(-1), -1);
        x.hire(1, true);
        x.hire(3, true);
        x.wish(1, 0);
        check.is("hired ones", x.has(3), 2);
        check.is("their COIN", x.has(4), 16);
        check.is("acts", x.has(8), 3);
        check.is("a hired one is where he wishes to be", x.has(10), 1);
        x.years(2);
        check.is("YEAR", x.has(6), 2);
    }

    private void letters() {
        BornAboard x = Check.of(Lines.TWO_TRAINS);
        String name = "eighth";
        for (int k = 0; k < 6; k++) {
            check.is("letter(0, 4, " + k + ")", x.letter(0, 4, k), name.charAt(k) - 'a' + 1);
        }
        check.is("behind a name of six", x.letter(0, 4, 6), -1);
        check.is("ahead of it", x.letter(0, 4, -1), -1);
        check.is("a", x.letter(0, 0, 0), 1);
        check.is("behind a", x.letter(0, 0, 1), 0);
        check.is("behind a, at 5", x.letter(0, 0, 5), 0);
        check.is("us", x.letter(1, 1, 1), 19);
        check.is("no third train", x.letter(1, 2, 0), -1);
        check.is("sylvia", x.letter(2, 3, 1), 25);
        check.is("nobody", x.letter(2, 4, 0), -1);
        check.is("which -1", x.letter(0, -1, 0), -1);
        check.is("kind 3", x.letter(3, 0, 0), -1);
        check.is("kind -1", x.letter(-1, 0, 0), -1);
        check.is("z", Check.of("station zazaz;").letter(0, 0, 4), 26);
    }

    private void stations() {
        BornAboard x = Check.of(Lines.TWO_TRAINS);
        int[][] due = {{0, 3, 0, 1}, {1, 0, 2, 2}, {2, 0, 1, 2}, {8, 1, 1, 2}, {0, 0, 0, 0}};
        for (int s = 0; s < 5; s++) {
            for (int what = 0; what < 4; what++) {
                check.is("station(" + s + ", " + what + ")", x.station(s, what), due[s][what]);
            }
        }
        check.is("station(5, 0)", x.station(5, 0), -1);
        check.is("station(-1, 0)", x.station(-1, 0), -1);
        check.is("station(0, 4)", x.station(0, 4), -1);
        check.is("station(0, -1)", x.station(0, -1), -1);
    }

    private void trains() {
        BornAboard x = Check.of(Lines.TWO_TRAINS);
        int[][] due = {{0, 30}, {1, 3}, {2, 3}, {10, 3}, {11, 2}, {12, 1}, {13, -1}, {20, -1}, {21, 4}, {22, 6},
            {23, -1}, {3, -1}, {9, -1}, {-1, -1}, {30, -1}};
        for (int[] row : due) {
            check.is("train(1, " + row[0] + ")", x.train(1, row[0]), row[1]);
        }
        check.is("train(0, 0)", x.train(0, 0), 10);
        check.is("train(0, 13)", x.train(0, 13), 3);
        check.is("train(2, 0)", x.train(2, 0), -1);
        check.is("train(-1, 0)", x.train(-1, 0), -1);
        BornAboard eight = Check.of("station a;station b;station c;station d;station e;station f;station g;station h;"
            + "train t from 5 seats 5 calls h after 1 g after 2 f after 3 e after 4 d after 5 c after 6 b after 7 a;");
        check.is("the 8th station", eight.train(0, 17), 0);
        check.is("train(0, 18)", eight.train(0, 18), -1);
        check.is("train(0, 19)", eight.train(0, 19), -1);
        check.is("minutes to the 8th", eight.train(0, 27), 7);
        check.is("train(0, 28)", eight.train(0, 28), -1);
        check.is("train(0, 20)", eight.train(0, 20), -1);
    }

    private void people() {
        BornAboard x = Check.of(Lines.TWO_TRAINS);
        int[][] due = {{30, 1, -1, 0, 2, 0, 0}, {40, 2, -1, 0, 3, 7, 0}, {50, 0, 1, 0, 1, 3, 0}, {60, 3, -1, 3, 1, 9, 0}};
        for (int p = 0; p < 4; p++) {
            for (int what = 0; what < 7; what++) {
                check.is("person(" + p + ", " + what + ")", x.person(p, what), due[p][what]);
            }
        }
        x.hire(2, true);
        check.is("hired", x.person(2, 6), 1);
        check.is("person(4, 0)", x.person(4, 0), -1);
        check.is("person(-1, 0)", x.person(-1, 0), -1);
        check.is("person(0, 7)", x.person(0, 7), -1);
        check.is("person(0, -1)", x.person(0, -1), -1);
    }
}
