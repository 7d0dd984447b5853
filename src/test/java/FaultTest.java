/** Promises 2 to 5: the tape, the text's grammar and its faults, each with the place that is due. */
public final class FaultTest {
    private static final String AB = "station a;station b;";
    private static final String EIGHT = "station a;station b;station c;station d;station e;station f;station g;"
        + "station h;station i;";
    private final Check check = new Check();

    public static void main(String[] args) {
        FaultTest test = new FaultTest();
        test.tape();
        test.soundTexts();
        test.texts();
        test.names();
        test.numbers();
        test.blanks();
        test.births();
        test.trains();
        test.limits();
        test.faultKept();
        test.check.finish();
    }

    private void tape() {
        BornAboard x = new BornAboard();
        check.is("end(0) of nothing", x.end(0), true);
        check.is("end(1) of nothing", x.end(1), false);
        check.is("end(-1)", x.end(-1), false);
        check.is("status(0)", x.status(0), 2);
        for (int n = 1; n <= 80; n++) {
            check.is("feed " + n, x.feed(0, 0, 0, 0, 0), 20 * n);
        }
        check.is("feed beyond 1600", x.feed(0, 0, 0, 0, 0), -1);
        check.is("status(0)", x.status(0), 3);
        check.is("end(1601)", x.end(1601), false);
        check.is("end(1600)", x.end(1600), true);
        check.is("end(1581)", x.end(1581), true);
        check.is("feed to 1601", x.feed(0, 0, 0, 0, 0), -1);
        check.is("end(1582) of 1581", x.end(1582), false);
        check.is("end(1580)", x.end(1580), true);
        check.is("feed to 1600", x.feed(1, 2, 3, 4, 5), 1600);
        check.is("status(0)", x.status(0), 6);
        x.end(0);
        // "stat", "ion ", "ab;s", "top ", "7;  "
        check.is("feed of a text", x.feed(0x73746174, 0x696f6e20, 0x61623b73, 0x746f7020, 0x373b2020), 20);
        check.is("line()", x.line(), 2);
        check.is("the stop's minutes", x.has(5), 7);
        check.is("end(1): the tape went", x.end(1), false);
        x.feed(-1, -1, -1, -1, -1);
        check.is("line() of bytes 255", x.line(), -1);
        check.is("end(1): it went with a fault, too", x.end(1), false);
    }

    private void soundTexts() {
        check.sound("", 0);
        check.sound(" \n ", 0);
        check.sound("station a;", 1);
        check.sound("\nstation\n\na \n;stop 30 ; stop 1;", 3);
        check.sound("stop 0007;", 1);
        check.sound(AB + "train t from 0 seats 1 calls a after 1 b;", 3);
        check.sound(AB + "train t from 1439 seats 12 calls a after 99 b;", 3);
        check.sound(AB + "person p age 0 born a at b to b price 0;", 3);
        check.sound(AB + "person p age 99 born a b at b to b price 99;", 3);
        check.sound("station abcdef;station stops;station fro;station tot;", 4);
        BornAboard x = Check.of("station a;stop 9;stop 3;");
        check.is("the last stop counts", x.has(5), 3);
        Check.tell(x, "station a;");
        check.is("4 without one", x.has(5), 4);
        check.is("line() without anything", Check.tell(x, ""), 0);
        check.is("no stations then", x.has(0), 0);
    }

    private void texts() {
        check.fault(";", 1, 0);
        check.fault("foo", 1, 0);
        check.fault("sta", 1, 0);
        check.fault(" sta", 1, 1);
        check.fault("12", 1, 0);
        check.fault("station", 1, 7);
        check.fault("station ", 1, 8);
        check.fault("station a", 1, 9);
        check.fault("station a \n", 1, 11);
        check.fault("station a;;", 1, 10);
        check.fault("station a b;", 1, 10);
        check.fault("station a 1;", 1, 10);
        check.fault("station a,", 1, 9);
        check.fault("Station a;", 1, 0);
        check.fault("station A;", 1, 8);
        check.fault("station a;\u0000", 1, 10);
        check.fault("station a;\t", 1, 10);
        check.fault("from", 1, 0);
        check.fault("station 5;", 1, 8);
        check.fault("stop a;", 1, 5);
        check.fault("stop;", 1, 4);
        check.fault("stop 5 5;", 1, 7);
        check.fault("stop -1;", 1, 5);
    }

    private void names() {
        check.fault("station abcdefg;", 1, 14);
        check.fault("abcdefgh", 1, 6);
        check.fault("stationx a;", 1, 6);
        check.fault("stop abcdefghi;", 1, 11);
        check.fault("station a;abcdefg", 1, 16);
        check.fault("station station;", 1, 8);
        check.fault("station to;", 1, 8);
        check.fault("train price from 5", 1, 6);
        check.fault("person at", 1, 7);
        check.fault("station a;station a;", 2, 18);
        check.fault(AB + "train b from", 2, 26);
        check.fault(AB + "person a age", 2, 27);
        check.fault(AB + "train t from 1 seats 1 calls a after 1 b;station t;", 2, 69);
        check.fault(AB + "train t from 1 seats 1 calls a after 1 b;person t", 2, 68);
        check.fault(AB + "person p age 1 born a at a to a price 1;train p", 2, 66);
        check.fault(AB + "train t from 1 seats 1 calls c", 3, 49);
        check.fault(AB + "train t from 1 seats 1 calls t", 3, 49);
        check.fault(AB + "train t from 1 seats 1 calls from", 1, 49);
        check.fault(AB + "train t from 1 seats 1 calls 3", 1, 49);
        check.fault(AB + "person p age 1 born p", 3, 40);
        check.fault(AB + "person p age 1 born x", 3, 40);
        check.fault(AB + "person p age 1 born at a", 1, 40);
        check.fault(AB + "person p age 1 born a at x", 3, 45);
        check.fault(AB + "person p age 1 born a at to", 1, 45);
        check.fault(AB + "person p age 1 born a at a to x", 3, 50);
        check.fault("person p age 1 born a at a to a price 1;station a;", 3, 20);
    }

    private void numbers() {
        check.fault("stop 0;", 4, 5);
        check.fault("stop 31;", 4, 5);
        check.fault("stop 31", 4, 5);
        check.fault("stop 31x", 4, 5);
        check.fault("stop 9999;", 4, 5);
        check.fault("stop 12345;", 1, 9);
        check.fault("stop 00001;", 1, 9);
        check.fault("station 12345;", 1, 12);
        check.fault("12345", 1, 4);
        check.fault("train t from 1440 ", 4, 13);
        check.fault("train t from 1439 seats 0", 4, 24);
        check.fault("train t from 1439 seats 13", 4, 24);
        check.fault(AB + "train t from 1 seats 1 calls a after 0 b;", 4, 57);
        check.fault(AB + "train t from 1 seats 1 calls a after 100 b;", 4, 57);
        check.fault("person p age 100", 4, 13);
        check.fault(AB + "person p age 1 born a at a to a price 100", 4, 58);
    }

    private void blanks() {
        check.fault("stop5;", 1, 4);
        check.fault("stop 5stop 6;", 1, 6);
        check.fault("station a1;", 1, 9);
        check.fault("train t from5 seats", 1, 12);
        check.fault("train t from 5seats", 1, 14);
        check.fault(AB + "person p age 1born a", 1, 34);
        // The blank that lacks is ahead of the letter or digit that is too many.
        check.fault("stop 5abcdefg", 1, 6);
        check.fault("stop 5stationx", 1, 6);
        check.fault("stop 5station a;", 1, 6);
        check.fault("stop12345;", 1, 4);
        check.fault("station a12345;", 1, 9);
        check.fault("station12345", 1, 7);
        check.fault("stop 1234abcdefg", 4, 5);
        check.fault("stop 31abcdefg", 4, 5);
        check.fault("stop 12345abcdefg", 1, 9);
        check.fault("station abcdefg12345", 1, 14);
        check.fault("train t from 5abcdefgh", 1, 14);
        check.fault(AB + "train t from 1 seats 1 calls a after 5stationx", 1, 58);
        check.fault(AB + "person p age 1 born a12345", 1, 41);
        check.fault("stop 5 abcdefg", 1, 13);
        check.fault("stop 5;abcdefg", 1, 13);
        check.fault("stop 5;12345", 1, 11);
        check.fault("stop 5" + (char) 233, 1, 6);
    }

    private void births() {
        String head = AB + "person p age 1 born ";
        check.fault(head + "a a", 3, 42);
        check.fault(head + "a x", 3, 42);
        check.fault(head + "a b a", 1, 44);
        check.fault(head + "a b x", 1, 44);
        check.fault(head + "a b abcdefg", 1, 50);
        check.fault(head + "a to a", 1, 42);
        check.fault(head + "a born", 1, 42);
        check.fault(head + "a 5", 1, 42);
        check.fault(head + "a b to a", 1, 44);
        check.fault(head + "a;", 1, 41);
        check.fault(head + "a", 1, 41);
        check.fault(head + "a at a price", 1, 47);
        check.fault(head + "a at a to a;", 1, 51);
        check.fault(head + "a at a to a price 1", 1, 59);
        check.fault(head + "a at a to a price ;", 1, 58);
    }

    private void trains() {
        String head = EIGHT + "train t from 5 seats 5 calls a";
        int at = head.length();
        check.fault(head + ";", 1, at);
        check.fault(head + " b;", 1, at + 1);
        check.fault(head + " after b;", 1, at + 7);
        check.fault(head + " after 5;", 1, at + 8);
        check.fault(head + " after 5 a;", 3, at + 9);
        check.fault(head + " after 5 b after 5 b;", 3, at + 19);
        check.fault(head + " after 5 b after 5 c after 5 a;", 3, at + 29);
        check.fault(head + " after 5 b after 5 c after 5 b;", 3, at + 29);
        check.fault(head + " after 5 b c", 1, at + 11);
        check.fault(head + " after 5 b after", 1, at + 16);
        String full = head + " after 1 b after 2 c after 3 d after 4 e after 5 f after 6 g after 7 h";
        check.sound(full + ";", 10);
        check.fault(full + " after 8 i;", 1, full.length() + 1);
        check.fault(full + " after 100 i;", 1, full.length() + 1);
        check.fault("train t calls", 1, 8);
        check.fault("train t from 5 calls", 1, 15);
        check.fault("train t from 5 seats 5 from", 1, 23);
    }

    private void limits() {
        StringBuilder stations = new StringBuilder();
        for (int k = 0; k < 14; k++) {
            stations.append("station s").append((char) ('a' + k)).append(';');
        }
        check.sound(stations.toString(), 14);
        check.fault(stations + "station x;", 5, stations.length());
        check.fault(stations + " station ", 5, stations.length() + 1);
        StringBuilder trains = new StringBuilder(AB);
        for (int k = 0; k < 6; k++) {
            trains.append("train t").append((char) ('a' + k)).append(" from 1 seats 1 calls a after 1 b;");
        }
        check.sound(trains.toString(), 8);
        check.fault(trains + "train ta", 5, trains.length());
        StringBuilder people = new StringBuilder(AB);
        for (int k = 0; k < 10; k++) {
            people.append("person p").append((char) ('a' + k)).append(" age 1 born a at a to a price 1;");
        }
        check.sound(people.toString(), 12);
        check.fault(people + "person pa", 5, people.length());
        String stops = "stop 5;".repeat(90);
        check.sound(stops, 90);
        check.fault(stops + "stop 5;", 5, 630);
        check.fault(stops + " stop", 5, 631);
        check.fault(stops + "station a;", 5, 630);
        behindNinety(stops);
        // Tapes that are full.
        check.fault(";".repeat(1600), 1, 0);
        check.fault("a ".repeat(800), 1, 0);
        check.fault("a".repeat(1600), 1, 6);
        check.fault("1".repeat(1600), 1, 4);
        check.fault(stops + " ".repeat(969) + "a", 5, 1599);
        check.fault(stops + " ".repeat(962) + "station ", 5, 1592);
        check.sound(stops + " ".repeat(970), 90);
        check.fault("stop 5;".repeat(10) + " ".repeat(1526) + "stop", 1, 1600);
        check.fault("stop 5;".repeat(10) + " ".repeat(1525) + "stop1", 1, 1599);
        check.sound("stop 5;".repeat(10) + " ".repeat(1523) + "stop 1;", 11);
    }

    /** Whatever begins there is the 91st statement, told at its first byte. */
    private void behindNinety(String stops) {
        for (String more : new String[] {"x", "abcdefg", "abcdefgh;", "stationx", "from", "12", "12345", ";", "!", "\u0000",
            "" + (char) 255, "station station;", "stop 99;", "x".repeat(900)}) {
            check.fault(stops + more, 5, 630);
            check.fault(stops + " \n" + more, 5, 632);
        }
        check.sound(stops + " \n\n ", 90);
        // The 90th one is read as any other.
        String some = "stop 5;".repeat(89);
        check.fault(some + "x", 1, 623);
        check.fault(some + "abcdefg", 1, 629);
        check.fault(some + "12345", 1, 627);
        check.fault(some + ";", 1, 623);
        check.fault(some + "stop 5", 1, 629);
        check.fault(some + "stop 5abcdefg", 1, 629);
        check.fault(some + "stop 5 abcdefg", 1, 636);
        check.fault(some + "stop 31;abcdefg", 4, 628);
        check.sound(some + "station a ;", 90);
    }

    private void faultKept() {
        BornAboard x = new BornAboard();
        check.is("check.fault(0) ahead of any line()", x.fault(0), 0);
        check.is("check.fault(1) ahead of any line()", x.fault(1), -1);
        Check.tell(x, AB + "stop 9;person p age 1 born a at a to b price 5;");
        x.hire(0, true);
        x.seed(77);
        check.is("line() with a fault", Check.tell(x, "station c;stop 99;"), -1);
        check.is("check.fault(0)", x.fault(0), 4);
        check.is("check.fault(1)", x.fault(1), 15);
        check.is("check.fault(2)", x.fault(2), -1);
        check.is("check.fault(-1)", x.fault(-1), -1);
        check.is("stations stay", x.has(0), 2);
        check.is("the hired one stays", x.has(3), 1);
        check.is("the act stays", x.has(8), 1);
        check.is("the stop stays", x.has(5), 9);
        check.is("status(1)", x.status(1), 1);
        x.years(3);
        check.is("line() without one", Check.tell(x, AB + "person p age 1 born a at a to b price 5;"), 3);
        int seed = x.has(9);
        check.is("the seed stays", seed != 1 && seed != 77, true);
        check.is("nobody is hired", x.has(3), 0);
        check.is("no act can be undone", x.has(8), 0);
        check.is("undo()", x.undo(), false);
        check.is("YEAR", x.has(6), 0);
        check.is("check.fault(0) then", x.fault(0), 0);
        check.is("check.fault(1) then", x.fault(1), -1);
        check.is("status(1)", x.status(1), 1);
    }
}
