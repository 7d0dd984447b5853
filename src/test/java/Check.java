/** What the tests share: counts wrong answers and tells a text to an object. */
final class Check {
    private int wrong = 0;
    private int asked = 0;
    private String test = "";

    /** What is wrong from now on is told by this test's name. */
    void begin(String name) {
        test = name + ": ";
    }

    void is(String what, long got, long due) {
        asked++;
        if (got != due) {
            tellWrong(what + " answered " + got + ", due is " + due);
        }
    }

    void threw(Throwable thrown) {
        tellWrong("threw " + thrown);
    }

    private void tellWrong(String what) {
        wrong++;
        if (wrong <= 50) {
            System.out.println(test + what);
        }
    }

    void is(String what, boolean got, boolean due) {
        is(what, got ? 1 : 0, due ? 1 : 0);
    }

    /** A text that is a line with so many statements. */
    void sound(String text, int statements) {
        BornAboard x = new BornAboard();
        is("line() of " + text, tell(x, text), statements);
        is("fault(0) of " + text, x.fault(0), 0);
        is("fault(1) of " + text, x.fault(1), BornAboard.NONE);
        is("status(1) of " + text, x.status(1), 0);
    }

    void fault(String text, int kind, int place) {
        BornAboard x = new BornAboard();
        is("line() of " + text, tell(x, text), BornAboard.NONE);
        is("fault(0) of " + text, x.fault(0), kind);
        is("fault(1) of " + text, x.fault(1), place);
        is("status(1) of " + text, x.status(1), 1);
    }

    int asked() {
        return asked;
    }

    boolean failed() {
        return wrong != 0;
    }

    void finish() {
        System.out.println(asked + " answers asked, " + wrong + " wrong");
        if (wrong != 0) {
            System.exit(1);
        }
    }

    /** Twenty bytes from the k-th on, as feed() takes them; blanks behind the last one. */
    static int[] packed(int[] bytes, int k) {
        int[] n = new int[5];
        for (int j = 0; j < 20; j++) {
            int b = k + j < bytes.length ? bytes[k + j] : 32;
            n[j / 4] = n[j / 4] << 8 | b & 255;
        }
        return n;
    }

    /** Puts bytes on the tape, whole. */
    static void put(BornAboard x, int... bytes) {
        for (int k = 0; k < bytes.length; k += 20) {
            int[] n = packed(bytes, k);
            x.feed(n[0], n[1], n[2], n[3], n[4]);
        }
        x.end(bytes.length);
    }

    static void put(BornAboard x, String text) {
        put(x, text.chars().toArray());
    }

    /** Bytes with the last one that makes them an image. */
    static int[] sealed(int... bytes) {
        int[] all = java.util.Arrays.copyOf(bytes, bytes.length + 1);
        int c = 67;
        for (int b : bytes) {
            c = (5 * c + b) % 249;
        }
        all[bytes.length] = c;
        return all;
    }

    /** An image of now without its last byte. */
    static int[] image(BornAboard x) {
        int[] bytes = new int[Math.max(0, x.image() - 1)];
        for (int k = 0; k < bytes.length; k++) {
            bytes[k] = x.octet(k);
        }
        return bytes;
    }

    /** All as now, but in another YEAR; no act can be undone then. */
    static void toYear(BornAboard x, int year) {
        int[] bytes = image(x);
        bytes[0] = year / 256;
        bytes[1] = year % 256;
        x.end(0);
        put(x, sealed(bytes));
        if (!x.on()) {
            throw new IllegalStateException("no image of YEAR " + year);
        }
    }

    static int tell(BornAboard x, String text) {
        put(x, text);
        return x.line();
    }

    static BornAboard of(String text) {
        BornAboard x = new BornAboard();
        int statements = tell(x, text);
        if (statements < 0) {
            throw new IllegalStateException("fault " + x.fault(0) + " at " + x.fault(1) + " of " + text);
        }
        return x;
    }
}
