/** Promises 36 to 39: images, and how many were refused. */
public final class ImageTest {
    private final Check check = new Check();

    public static void main(String[] args) {
        ImageTest test = new ImageTest();
        test.image();
        test.on();
        test.refused();
        test.status();
        test.check.finish();
    }

    /** YEAR 300 of the people of TWO_TRAINS, r hired. */
    private static int[] plain() {
        return new int[] {1, 44, 30, 2, 0, 0, 2, 0, 40, 3, 0, 0, 3, 0, 50, 1, 2, 0, 1, 1, 60, 4, 0, 3, 1, 0};
    }

    private void image() {
        BornAboard x = Check.of(Lines.TWO_TRAINS);
        x.hire(2, true);
        check.is("image()", x.image(), 27);
        int[] due = plain();
        due[0] = 0;
        due[1] = 0;
        due = Check.sealed(due);
        for (int k = 0; k < 27; k++) {
            check.is("octet(" + k + ")", x.octet(k), due[k]);
        }
        check.is("octet(27)", x.octet(27), -1);
        check.is("octet(-1)", x.octet(-1), -1);
        x.hire(2, false);
        check.is("of the latest image()", x.octet(19), 1);
        Check.tell(x, "");
        check.is("behind another line, too", x.octet(19), 1);
        check.is("image() of nobody", x.image(), 3);
        check.is("octet(3)", x.octet(3), -1);
        check.is("octet(2)", x.octet(2), 181);
    }

    private void on() {
        BornAboard x = Check.of(Lines.TWO_TRAINS);
        x.wish(0, 4);
        x.hire(3, true);
        Check.put(x, Check.sealed(plain()));
        check.is("on()", x.on(), true);
        check.is("the tape went", x.end(1), false);
        check.is("YEAR", x.has(6), 300);
        check.is("no act can be undone", x.has(8), 0);
        check.is("hired", x.person(2, 6) * 2 + x.person(3, 6), 2);
        check.is("wish", x.person(0, 4), 2);
        check.is("born", x.person(2, 1), 0);
        check.is("second", x.person(2, 2), 1);
        check.is("without a second", x.person(3, 2), -1);
        check.is("at", x.person(3, 3), 3);
        check.is("age", x.person(3, 0), 60);
        x.image();
        int[] due = Check.sealed(plain());
        for (int k = 0; k < due.length; k++) {
            check.is("octet(" + k + ") of it", x.octet(k), due[k]);
        }
        int[] edge = plain();
        edge[0] = 39;
        edge[1] = 15;
        edge[2] = 99;
        edge[3] = 5;
        edge[4] = 1;
        edge[5] = 4;
        edge[6] = 4;
        Check.put(x, Check.sealed(edge));
        check.is("on() at the edges", x.on(), true);
        check.is("YEAR 9999", x.has(6), 9999);
        check.is("age 99", x.person(0, 0), 99);
        check.is("born at the last, second the first", x.person(0, 1) * 10 + x.person(0, 2), 40);
        edge[3] = 1;
        edge[4] = 5;
        Check.put(x, Check.sealed(edge));
        check.is("on() the other way round", x.on(), true);
        check.is("born at the first, second the last", x.person(0, 1) * 10 + x.person(0, 2), 4);
    }

    private void refused() {
        int[][] changes = {{0, 39, 1, 16}, {0, 255, 1, 255}, {2, 100}, {2, 255}, {3, 0}, {3, 6}, {4, 6}, {4, 2}, {5, 5},
            {6, 5}, {7, 1}, {7, 2}, {19, 2}, {19, 255}};
        for (int[] change : changes) {
            int[] bytes = plain();
            for (int k = 0; k < change.length; k += 2) {
                bytes[change[k]] = change[k + 1];
            }
            refuse("byte " + change[0] + " is " + change[1], Check.sealed(bytes));
        }
        refuse("one too few", java.util.Arrays.copyOf(Check.sealed(plain()), 26));
        refuse("one too many", java.util.Arrays.copyOf(Check.sealed(plain()), 28));
        refuse("fewer people", Check.sealed(java.util.Arrays.copyOf(plain(), 20)));
        refuse("more people", Check.sealed(java.util.Arrays.copyOf(plain(), 32)));
        refuse("nothing");
        int[] other = Check.sealed(plain());
        other[26] = (other[26] + 1) % 249;
        refuse("another last byte", other);
        other[26] = Check.sealed(plain())[26] + 249;
        if (other[26] < 256) {
            refuse("a last byte beyond 248", other);
        }
    }

    private void refuse(String what, int... bytes) {
        BornAboard x = Check.of(Lines.TWO_TRAINS);
        x.hire(1, true);
        Check.put(x, bytes);
        check.is("on() with " + what, x.on(), false);
        check.is("status(5) with " + what, x.status(5), 1);
        check.is("the tape went with " + what, x.end(1), false);
        check.is("YEAR stays with " + what, x.has(6), 0);
        check.is("the act stays with " + what, x.has(8), 1);
        check.is("hired stays with " + what, x.person(1, 6), 1);
        check.is("age stays with " + what, x.person(0, 0), 30);
    }

    private void status() {
        BornAboard x = new BornAboard();
        x.end(1);
        x.end(-1);
        Check.tell(x, "foo");
        x.hire(0, true);
        x.wish(0, 0);
        x.move(0, 0);
        x.hiring(1);
        x.years(0);
        x.years(41);
        x.years(-5);
        x.undo();
        x.seed(-1);
        x.on();
        int[] due = {2, 1, 4, 3, 1, 2};
        for (int what = 0; what < 6; what++) {
            check.is("status(" + what + ")", x.status(what), due[what]);
        }
        check.is("status(6)", x.status(6), -1);
        check.is("status(-1)", x.status(-1), -1);
        Check.tell(x, "station a;");
        check.is("a line leaves them", x.status(2), 4);
    }
}
