/** Lines whose days are worked out by hand in the tests. */
final class Lines {
    /**
     * Train t: a 10 (p, q on, no seat for r), b 20 (p was born there), c 35 (q; p off), d 50 (q off).
     * Train u: d 30 (s on), c 34 (goes through), b 40 (s off).
     */
    static final String TWO_TRAINS = "station a;station b;station c;station d;station eighth;stop 5;"
        + "train t from 10 seats 2 calls a after 10 b after 10 c after 10 d;"
        + "train us from 30 seats 3 calls d after 4 c after 6 b;"
        + "person p age 30 born b at a to c price 0;"
        + "person q age 40 born c at a to d price 7;"
        + "person r age 50 born a b at a to b price 3;"
        + "person sylvia age 60 born d at d to b price 9;";

    /** The train goes through b, where p and o wish to go, unless x or y is hired. */
    static final String GUIDES = "station a;station b;station c;"
        + "train t from 0 seats 3 calls a after 5 b after 5 c;"
        + "person p age 1 born a at a to b price 0;"
        + "person o age 1 born a at a to b price 0;"
        + "person x age 1 born b at a to a price 5;"
        + "person y age 1 born b at a to a price 4;"
        + "person z age 1 born c at c to c price 2;";

    /** p gets off at b and takes the stop at c along, where q wishes to go; so q goes on to d. */
    static final String TAKEN_ALONG = "station a;station b;station c;station d;stop 4;"
        + "train t from 0 seats 5 calls a after 5 b after 5 c after 5 d;"
        + "person p age 0 born c at a to b price 0;"
        + "person q age 0 born b at a to c price 0;";

    /** Four stations, two trains, three people, r and q with a price: what calls are refused on. */
    static final String SMALL = stations(4) + "stop 5;"
        + train("t", 10, 2, "a after 10 b after 10 c") + train("us", 60, 1, "c after 7 d")
        + person("p", 30, "b", "a", "c", 0) + person("q", 40, "c d", "a", "d", 7) + person("r", 50, "a", "c", "d", 3);

    private Lines() {
    }

    /** So many stations, named a, b, c and on. */
    static String stations(int n) {
        StringBuilder text = new StringBuilder();
        for (int s = 0; s < n; s++) {
            text.append("station ").append(place(s)).append(';');
        }
        return text.toString();
    }

    static char place(int s) {
        return (char) ('a' + s);
    }

    static String train(String name, int from, int seats, String calls) {
        return "train " + name + " from " + from + " seats " + seats + " calls " + calls + ";";
    }

    static String person(String name, int age, String born, String at, String to, int price) {
        return "person " + name + " age " + age + " born " + born + " at " + at + " to " + to + " price " + price + ";";
    }

    /** So many people who are alike but for their names, pa, pb and on. */
    static String people(int n, int age, String born, String at, String to, int price) {
        StringBuilder text = new StringBuilder();
        for (int p = 0; p < n; p++) {
            text.append(person("p" + place(p), age, born, at, to, price));
        }
        return text.toString();
    }
}
