/** What the tests share: counts wrong answers and tells a text to an object. */
final class Check {
    private int wrong = 0;
    private int asked = 0;

    void is(String what, long got, long due) {
        asked++;
        if (got != due) {
            wrong++;
            if (wrong <= 50) {
                System.out.println(what + " answered " + got + ", due is " + due);
            }
        }
    }

    void is(String what, boolean got, boolean due) {
        is(what, got ? 1 : 0, due ? 1 : 0);
    }

    boolean failed() {
        return wrong != 0;
    }

    void finish() {
        System.out.println(asked + " answers asked, " + wrong + " wrong");
        if (wrong != 0) {
            System.exit(1);
        }
    }

    /** Twenty bytes from the k-th on, as feed() takes them; blanks behind the last one. */
    static int[] packed(int[] bytes, int k) {
        int[] n = new int[5];
        for (int j = 0; j < 20; j++) {
            int b = k + j < bytes.length ? bytes[k + j] : 32;
            n[j / 4] = n[j / 4] << 8 | b & 255;
        }
        return n;
    }

    /** Puts bytes on the tape, whole. */
    static void put(BornAboard x, int... bytes) {
        for (int k = 0; k < bytes.length; k += 20) {
            int[] n = packed(bytes, k);
            x.feed(n[0], n[1], n[2], n[3], n[4]);
        }
        x.end(bytes.length);
    }

    static void put(BornAboard x, String text) {
        put(x, text.chars().toArray());
    }

    static int tell(BornAboard x, String text) {
        put(x, text);
        return x.line();
    }

    static BornAboard of(String text) {
        BornAboard x = new BornAboard();
        int statements = tell(x, text);
        if (statements < 0) {
            throw new IllegalStateException("fault " + x.fault(0) + " at " + x.fault(1) + " of " + text);
        }
        return x;
    }
}
