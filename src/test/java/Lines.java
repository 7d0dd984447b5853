/** Lines whose days are worked out by hand in the tests. */
final class Lines {
    /**
     * Train t: a 10 (p, q on, no seat for r), b 20 (p was born there), c 35 (q; p off), d 50 (q off).
     * Train u: d 30 (s on), c 34 (goes through), b 40 (s off).
     */
    static final String TWO_TRAINS = "station a;station b;station c;station d;station eighth;stop 5;"
        + "train t from 10 seats 2 calls a after 10 b after 10 c after 10 d;"
        + "train us from 30 seats 3 calls d after 4 c after 6 b;"
        + "person p age 30 born b at a to c price 0;"
        + "person q age 40 born c at a to d price 7;"
        + "person r age 50 born a b at a to b price 3;"
        + "person sylvia age 60 born d at d to b price 9;";

    /** The train goes through b, where p and o wish to go, unless x or y is hired. */
    static final String GUIDES = "station a;station b;station c;"
        + "train t from 0 seats 3 calls a after 5 b after 5 c;"
        + "person p age 1 born a at a to b price 0;"
        + "person o age 1 born a at a to b price 0;"
        + "person x age 1 born b at a to a price 5;"
        + "person y age 1 born b at a to a price 4;"
        + "person z age 1 born c at c to c price 2;";

    /** p gets off at b and takes the stop at c along, where q wishes to go; so q goes on to d. */
    static final String TAKEN_ALONG = "station a;station b;station c;station d;stop 4;"
        + "train t from 0 seats 5 calls a after 5 b after 5 c after 5 d;"
        + "person p age 0 born c at a to b price 0;"
        + "person q age 0 born b at a to c price 0;";

    private Lines() {
    }
}
