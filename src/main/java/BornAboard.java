/**
 * A line whose trains stop only where somebody aboard was born.
 * Everything that a call needs is made in the constructor and used again, so calls make no objects.
 */
public final class BornAboard {
    public static final int NONE = -1;

    private static final int STATIONS = 14;
    private static final int TRAINS = 6;
    private static final int CALLS = 8;
    private static final int PEOPLE = 10;
    private static final int SETS = 1 << PEOPLE;
    private static final int STATEMENTS = 90;
    private static final int LETTERS = 6;
    private static final int DIGITS = 4;
    private static final int TAPE = 1600;
    private static final int FED = 20;
    private static final int ACTS = 20;
    private static final int STOP_MINUTES = 4;
    private static final int LAST_YEAR = 9999;
    private static final int OLDEST = 99;
    // No DAY is longer: 1439 minutes and 7 times 99 + 30 + 30.
    private static final int LAST_MINUTE = 9999;
    private static final int DAYS_ON_END = 30;
    private static final int HEAD = 2;
    private static final int PERSON_BYTES = 6;

    private static final int FEEDING = 0;
    private static final int READING = 1;
    private static final int CHANGING = 2;
    private static final int AGEING = 3;
    private static final int UNDOING = 4;
    private static final int SETTING = 5;
    private static final int REFUSALS = 6;

    private final Tape tape = new Tape();
    private final Parser parser = new Parser();
    private final People now = new People();
    private final People spare = new People();
    private final Acts acts = new Acts();
    private Line line = new Line();
    private final Day day = new Day();
    private final Hirings hirings = new Hirings();
    private final int[] refused = new int[REFUSALS];
    private final int[] written = new int[HEAD + PEOPLE * PERSON_BYTES + 1];
    private int writtenLength = 0;
    private int seed = 1;

    public BornAboard() {
    }

    public int feed(int a, int b, int c, int d, int e) {
        if (tape.length + FED > TAPE) {
            return refuse(FEEDING);
        }
        tape.append(a);
        tape.append(b);
        tape.append(c);
        tape.append(d);
        tape.append(e);
        return tape.length;
    }

    public boolean end(int n) {
        if (n < 0 || n > tape.length) {
            return deny(FEEDING);
        }
        tape.length = n;
        return true;
    }

    public int line() {
        boolean sound = parser.read(tape);
        tape.length = 0;
        if (!sound) {
            return refuse(READING);
        }
        line = parser.exchange(line);
        now.copy(line.people);
        startAnew();
        return line.statements;
    }

    public int fault(int what) {
        switch (what) {
            case 0:
                return parser.fault;
            case 1:
                return parser.place;
            default:
                return NONE;
        }
    }

    public int has(int what) {
        switch (what) {
            case 0:
                return line.stations;
            case 1:
                return line.trains;
            case 2:
                return now.count;
            case 3:
                return Integer.bitCount(now.hired);
            case 4:
                return line.coin(now.hired);
            case 5:
                return line.stopMinutes;
            case 6:
                return now.year;
            case 7:
                return countDead();
            case 8:
                return acts.count;
            case 9:
                return seed;
            case 10:
                return Integer.bitCount(now.content());
            default:
                return NONE;
        }
    }

    public int letter(int kind, int which, int k) {
        if (k < 0 || k >= LETTERS) {
            return NONE;
        }
        switch (kind) {
            case 0:
                return isStation(which) ? letterOf(line.stationNames[which], k) : NONE;
            case 1:
                return isTrain(which) ? letterOf(line.trainNames[which], k) : NONE;
            case 2:
                return isPerson(which) ? letterOf(line.personNames[which], k) : NONE;
            default:
                return NONE;
        }
    }

    public int station(int station, int what) {
        if (!isStation(station)) {
            return NONE;
        }
        switch (what) {
            case 0:
                return now.bornAt(station);
            case 1:
                return now.countAt(station);
            case 2:
                return now.countTo(station);
            case 3:
                return line.countCalls(station);
            default:
                return NONE;
        }
    }

    public int train(int train, int what) {
        if (!isTrain(train)) {
            return NONE;
        }
        switch (what) {
            case 0:
                return line.from[train];
            case 1:
                return line.seats[train];
            case 2:
                return line.lengths[train];
            default:
                break;
        }
        if (what >= 10 && isCall(train, what - 10)) {
            return line.calls[train][what - 10];
        }
        if (what >= 21 && isCall(train, what - 20)) {
            return line.after[train][what - 20];
        }
        return NONE;
    }

    public int person(int person, int what) {
        if (!isPerson(person)) {
            return NONE;
        }
        switch (what) {
            case 0:
                return now.age[person];
            case 1:
                return now.born[person];
            case 2:
                return now.second[person];
            case 3:
                return now.at[person];
            case 4:
                return now.to[person];
            case 5:
                return line.prices[person];
            case 6:
                return bit(now.hired, person);
            default:
                return NONE;
        }
    }

    // ---- acts

    public boolean hire(int person, boolean is) {
        if (!isPerson(person) || line.prices[person] == 0 || is == (bit(now.hired, person) == 1)) {
            return deny(CHANGING);
        }
        beginAct();
        now.hired ^= 1 << person;
        return true;
    }

    public boolean wish(int person, int station) {
        if (!isPerson(person) || !isStation(station) || now.to[person] == station) {
            return deny(CHANGING);
        }
        beginAct();
        now.to[person] = station;
        return true;
    }

    public boolean move(int person, int station) {
        if (!isPerson(person) || !isStation(station) || now.at[person] == station) {
            return deny(CHANGING);
        }
        beginAct();
        now.at[person] = station;
        return true;
    }

    public int day() {
        beginAct();
        passDay(now);
        return Integer.bitCount(day.arrived);
    }

    public int years(int n) {
        if (n < 1 || n > 40 || now.year + n > LAST_YEAR) {
            return refuse(AGEING);
        }
        beginAct();
        return passYears(now, n);
    }

    public boolean undo() {
        if (!acts.restore(now)) {
            return deny(UNDOING);
        }
        hirings.known = false;
        return true;
    }

    public boolean seed(int seed) {
        if (seed < 0) {
            return deny(SETTING);
        }
        this.seed = seed;
        return true;
    }

    // ---- a day that would be

    public int stops(int train, int k, int what) {
        if (!isCall(train, k)) {
            return NONE;
        }
        tryDay(now);
        Log log = day.log;
        switch (what) {
            case 0:
                return bit(log.stopped[train], k);
            case 1:
                return log.comes[train][k];
            case 2:
                return Integer.bitCount(log.off[train][k]);
            case 3:
                return Integer.bitCount(log.on[train][k]);
            case 4:
                return Integer.bitCount(log.came[train][k] & ~log.off[train][k] | log.on[train][k]);
            case 5:
                return bit(log.between[train], k);
            default:
                return NONE;
        }
    }

    public int fares(int person, int what) {
        if (!isPerson(person)) {
            return NONE;
        }
        tryDay(now);
        switch (what) {
            case 0:
                return day.at[person];
            case 1:
                return day.offMinute[person];
            case 2:
                return day.rides[person];
            case 3:
                return bit(day.arrived, person);
            case 4:
                return bit(day.stranded(), person);
            default:
                return NONE;
        }
    }

    public int whole(int what) {
        tryDay(now);
        switch (what) {
            case 0:
                return Integer.bitCount(day.arrived);
            case 1:
                return Integer.bitCount(day.stranded());
            case 2:
                return day.log.countStops(line.trains);
            case 3:
                return day.log.countBetween(line.trains);
            case 4:
                return day.log.lastMinute(line);
            case 5:
                return day.countGood();
            default:
                return NONE;
        }
    }

    // ---- whom to hire

    public int least(int person, int what) {
        if (!isPerson(person)) {
            return NONE;
        }
        return coinOrBits(1 << person, what);
    }

    public int most(int what) {
        hirings.learn(line, now, day);
        int bits = hirings.best();
        switch (what) {
            case 0:
                return hirings.countThere(bits);
            case 1:
                return line.coin(bits);
            case 2:
                return bits;
            default:
                return NONE;
        }
    }

    public int places(int what) {
        hirings.learn(line, now, day);
        int bits = hirings.fewest();
        if (bits == NONE) {
            return NONE;
        }
        switch (what) {
            case 0:
                return Integer.bitCount(bits);
            case 1:
                return line.coin(bits);
            case 2:
                return bits;
            default:
                return NONE;
        }
    }

    public boolean hiring(int bits) {
        if ((bits & ~line.priced()) != 0) {
            return deny(CHANGING);
        }
        if (bits != now.hired) {
            beginAct();
            now.hired = bits;
        }
        return true;
    }

    // ---- what one is worth

    public int worth(int person) {
        if (!isPerson(person)) {
            return NONE;
        }
        tryDay(now);
        int with = day.countGood();
        day.go(now.hired, 1 << person, 0, LAST_MINUTE);
        return with - day.countGood() + 100;
    }

    public int bear(int person, int what) {
        if (!isPerson(person) || what < 0 || what > 1) {
            return NONE;
        }
        spare.copy(now);
        spare.second[person] = NONE;
        int best = NONE;
        int most = NONE;
        for (int s = 0; s < line.stations; s++) {
            spare.born[person] = s;
            tryDay(spare);
            int good = day.countGood();
            if (good > most) {
                most = good;
                best = s;
            }
        }
        return what == 0 ? best : most;
    }

    public int stay(int person) {
        if (!isPerson(person)) {
            return NONE;
        }
        day.prepare(line, now);
        day.go(now.hired, 0, 1 << person, LAST_MINUTE);
        return day.countGood();
    }

    public int seen(int train, int bits, int what) {
        if (!isTrain(train) || !canBeSeen(train, bits) || what < 0 || what > 2) {
            return NONE;
        }
        day.ties.learn(line, now);
        int sets = 0;
        int all = (1 << now.count) - 1;
        int some = 0;
        for (int set = 0; set < 1 << now.count; set++) {
            if (stopsBy(train, set) == bits) {
                sets++;
                all &= set;
                some |= set;
            }
        }
        switch (what) {
            case 0:
                return sets;
            case 1:
                return sets == 0 ? 0 : all;
            default:
                return some;
        }
    }

    public int dead(int k) {
        int met = 0;
        for (int s = 0; s < line.stations; s++) {
            if (now.bornAt(s) == 0) {
                if (met == k) {
                    return s;
                }
                met++;
            }
        }
        return NONE;
    }

    public int runs(int n, int years, int station, int what) {
        if (n < 1 || n > 20 || years < 1 || years > 20 || !isStation(station) || what < 0 || what > 1) {
            return NONE;
        }
        int dead = 0;
        int died = 0;
        for (int run = 0; run < n; run++) {
            spare.copy(now);
            died += passYears(spare, years);
            dead += spare.bornAt(station) == 0 ? 1 : 0;
        }
        return what == 0 ? dead : died;
    }

    // ---- by whom, where one is, days on end

    public int because(int train, int k) {
        if (!isCall(train, k)) {
            return NONE;
        }
        if (k == 0 || k == line.lengths[train] - 1) {
            return 0;
        }
        tryDay(now);
        return day.log.came[train][k] & day.ties.bornAt[line.calls[train][k]];
    }

    public int left(int train, int k) {
        if (!isCall(train, k)) {
            return NONE;
        }
        tryDay(now);
        int gone = 0;
        for (int ahead = 0; ahead < k; ahead++) {
            gone |= day.log.off[train][ahead];
        }
        return gone & day.ties.bornAt[line.calls[train][k]];
    }

    public int child(int person, int minute, int what) {
        if (!isPerson(person) || minute < 0 || minute > LAST_MINUTE || what < 0 || what > 1) {
            return NONE;
        }
        day.prepare(line, now);
        day.go(now.hired, 0, 0, minute);
        int train = day.trainOf(person);
        if (train == NONE) {
            return what == 0 ? day.at[person] : NONE;
        }
        int k = day.next[train] - 1;
        if (minute <= day.leaves[train]) {
            return what == 0 && isCall(train, k) ? line.calls[train][k] : NONE;
        }
        return isCall(train, k + what) ? line.calls[train][k + what] : NONE;
    }

    public int settles(int what) {
        if (what < 0 || what > 3) {
            return NONE;
        }
        spare.copy(now);
        int days = 0;
        int good = 0;
        int most = NONE;
        int mostDay = 0;
        boolean moving = true;
        while (moving && days < DAYS_ON_END) {
            moving = passDay(spare);
            days++;
            good = day.countGood();
            if (good > most) {
                most = good;
                mostDay = days;
            }
        }
        switch (what) {
            case 0:
                return moving ? DAYS_ON_END + 1 : days;
            case 1:
                return good;
            case 2:
                return now.countElsewhere(spare);
            default:
                return mostDay;
        }
    }

    public int both(int first, int second, int what) {
        if (!isPerson(first) || !isPerson(second) || first == second) {
            return NONE;
        }
        return coinOrBits(1 << first | 1 << second, what);
    }

    // ---- images, refusals

    public int image() {
        written[0] = now.year >> 8;
        written[1] = now.year & 255;
        int k = HEAD;
        for (int p = 0; p < now.count; p++) {
            written[k] = now.age[p];
            written[k + 1] = now.born[p] + 1;
            written[k + 2] = now.second[p] + 1;
            written[k + 3] = now.at[p];
            written[k + 4] = now.to[p];
            written[k + 5] = bit(now.hired, p);
            k += PERSON_BYTES;
        }
        written[k] = checksum(written, k);
        writtenLength = k + 1;
        return writtenLength;
    }

    public int octet(int k) {
        return k >= 0 && k < writtenLength ? written[k] : NONE;
    }

    public boolean on() {
        boolean sound = isImage();
        if (sound) {
            takeImage();
            startAnew();
        }
        tape.length = 0;
        return sound || deny(SETTING);
    }

    public int status(int what) {
        return what >= 0 && what < REFUSALS ? refused[what] : NONE;
    }

    // ---- what the calls share

    private int refuse(int kind) {
        refused[kind]++;
        return NONE;
    }

    private boolean deny(int kind) {
        refused[kind]++;
        return false;
    }

    private static int bit(int bits, int k) {
        return bits >> k & 1;
    }

    private static int letterOf(int name, int k) {
        return name >> 5 * k & 31;
    }

    private boolean isStation(int station) {
        return station >= 0 && station < line.stations;
    }

    private boolean isTrain(int train) {
        return train >= 0 && train < line.trains;
    }

    private boolean isPerson(int person) {
        return person >= 0 && person < now.count;
    }

    private boolean isCall(int train, int k) {
        return isTrain(train) && k >= 0 && k < line.lengths[train];
    }

    private int countDead() {
        int dead = 0;
        for (int s = 0; s < line.stations; s++) {
            dead += now.bornAt(s) == 0 ? 1 : 0;
        }
        return dead;
    }

    private void startAnew() {
        acts.count = 0;
        hirings.known = false;
    }

    private void beginAct() {
        acts.save(now);
        hirings.known = false;
    }

    private void tryDay(People people) {
        day.prepare(line, people);
        day.go(people.hired, 0, 0, LAST_MINUTE);
    }

    /** Whether somebody is elsewhere behind it. */
    private boolean passDay(People people) {
        tryDay(people);
        boolean moved = false;
        for (int p = 0; p < people.count; p++) {
            moved |= people.at[p] != day.at[p];
            people.at[p] = day.at[p];
        }
        return moved;
    }

    /** How many died. */
    private int passYears(People people, int n) {
        int died = 0;
        for (int y = 0; y < n && people.year < LAST_YEAR; y++) {
            tryDay(people);
            for (int p = 0; p < people.count; p++) {
                if (day.at[p] == people.to[p]) {
                    people.to[p] = people.at[p];
                }
                people.at[p] = day.at[p];
            }
            died += ageAll(people);
            people.year++;
        }
        return died;
    }

    private int ageAll(People people) {
        int died = 0;
        for (int p = 0; p < people.count; p++) {
            if (drawOfHundred() < people.age[p]) {
                people.giveWay(p);
                died++;
            } else if (people.age[p] < OLDEST) {
                people.age[p]++;
            }
        }
        return died;
    }

    private int drawOfHundred() {
        long x = 1103515245L * seed + 12345L;
        seed = (int) (x & 0x7fffffffL);
        return seed / 64 % 100;
    }

    private int coinOrBits(int need, int what) {
        if (what < 0 || what > 1) {
            return NONE;
        }
        hirings.learn(line, now, day);
        int bits = hirings.cheapest(need);
        if (bits == NONE) {
            return NONE;
        }
        return what == 0 ? line.coin(bits) : bits;
    }

    private boolean canBeSeen(int train, int bits) {
        int n = line.lengths[train];
        int ends = 1 | 1 << n - 1;
        return bits >= 0 && bits < 1 << n && (bits & ends) == ends;
    }

    private int stopsBy(int train, int set) {
        int last = line.lengths[train] - 1;
        int bits = 1 | 1 << last;
        for (int k = 1; k < last; k++) {
            if ((set & day.ties.bornAt[line.calls[train][k]]) != 0) {
                bits |= 1 << k;
            }
        }
        return bits;
    }

    private static int checksum(int[] bytes, int n) {
        int c = 67;
        for (int k = 0; k < n && k < bytes.length; k++) {
            c = (5 * c + bytes[k]) % 249;
        }
        return c;
    }

    private boolean isImage() {
        int last = HEAD + PERSON_BYTES * now.count;
        if (tape.length != last + 1 || tape.bytes[last] != checksum(tape.bytes, last)) {
            return false;
        }
        boolean sound = tape.bytes[0] * 256 + tape.bytes[1] <= LAST_YEAR;
        for (int p = 0; p < now.count; p++) {
            sound &= isPersonImage(p, HEAD + PERSON_BYTES * p);
        }
        return sound;
    }

    private boolean isPersonImage(int p, int k) {
        int born = tape.bytes[k + 1];
        int second = tape.bytes[k + 2];
        int hired = tape.bytes[k + 5];
        return tape.bytes[k] <= OLDEST
            && isStation(born - 1)
            && (second == 0 || isStation(second - 1) && second != born)
            && isStation(tape.bytes[k + 3])
            && isStation(tape.bytes[k + 4])
            && (hired == 0 || hired == 1 && line.prices[p] > 0);
    }

    private void takeImage() {
        now.year = tape.bytes[0] * 256 + tape.bytes[1];
        now.hired = 0;
        for (int p = 0; p < now.count; p++) {
            int k = HEAD + PERSON_BYTES * p;
            now.age[p] = tape.bytes[k];
            now.born[p] = tape.bytes[k + 1] - 1;
            now.second[p] = tape.bytes[k + 2] - 1;
            now.at[p] = tape.bytes[k + 3];
            now.to[p] = tape.bytes[k + 4];
            now.hired |= tape.bytes[k + 5] << p;
        }
    }

    private static final class Tape {
        final int[] bytes = new int[TAPE];
        int length = 0;

        void append(int number) {
            for (int shift = 24; shift >= 0 && length < TAPE; shift -= 8) {
                bytes[length] = number >> shift & 255;
                length++;
            }
        }
    }

    /** What people are now; names and prices never change, so the line holds those. */
    private static final class People {
        int count = 0;
        int year = 0;
        int hired = 0;
        final int[] age = new int[PEOPLE];
        final int[] born = new int[PEOPLE];
        final int[] second = new int[PEOPLE];
        final int[] at = new int[PEOPLE];
        final int[] to = new int[PEOPLE];

        void copy(People other) {
            count = other.count;
            year = other.year;
            hired = other.hired;
            System.arraycopy(other.age, 0, age, 0, PEOPLE);
            System.arraycopy(other.born, 0, born, 0, PEOPLE);
            System.arraycopy(other.second, 0, second, 0, PEOPLE);
            System.arraycopy(other.at, 0, at, 0, PEOPLE);
            System.arraycopy(other.to, 0, to, 0, PEOPLE);
        }

        int bornAt(int station) {
            int bits = 0;
            for (int p = 0; p < count; p++) {
                if (born[p] == station && second[p] == NONE) {
                    bits |= 1 << p;
                }
            }
            return bits;
        }

        int bornBetween(int one, int other) {
            int bits = 0;
            for (int p = 0; p < count; p++) {
                if (born[p] == one && second[p] == other || born[p] == other && second[p] == one) {
                    bits |= 1 << p;
                }
            }
            return bits;
        }

        int countAt(int station) {
            int sum = 0;
            for (int p = 0; p < count; p++) {
                sum += at[p] == station ? 1 : 0;
            }
            return sum;
        }

        int countTo(int station) {
            int sum = 0;
            for (int p = 0; p < count; p++) {
                sum += to[p] == station ? 1 : 0;
            }
            return sum;
        }

        int content() {
            int bits = 0;
            for (int p = 0; p < count; p++) {
                bits |= at[p] == to[p] ? 1 << p : 0;
            }
            return bits;
        }

        int countElsewhere(People later) {
            int sum = 0;
            for (int p = 0; p < count; p++) {
                sum += at[p] != later.at[p] ? 1 : 0;
            }
            return sum;
        }

        /** One dies, and his child has his place. */
        void giveWay(int p) {
            if (second[p] == NONE) {
                to[p] = born[p];
            }
            age[p] = 0;
            born[p] = at[p];
            second[p] = NONE;
        }
    }

    /** What a text tells; a name is a number with five bits a letter, the first one lowest. */
    private static final class Line {
        int statements = 0;
        int stations = 0;
        int trains = 0;
        int stopMinutes = STOP_MINUTES;
        final int[] stationNames = new int[STATIONS];
        final int[] trainNames = new int[TRAINS];
        final int[] personNames = new int[PEOPLE];
        final int[] prices = new int[PEOPLE];
        final int[] from = new int[TRAINS];
        final int[] seats = new int[TRAINS];
        final int[] lengths = new int[TRAINS];
        final int[][] calls = new int[TRAINS][CALLS];
        final int[][] after = new int[TRAINS][CALLS];
        final People people = new People();

        void clear() {
            statements = 0;
            stations = 0;
            trains = 0;
            stopMinutes = STOP_MINUTES;
            people.count = 0;
        }

        boolean hasName(int name) {
            return indexOf(stationNames, stations, name) != NONE
                || indexOf(trainNames, trains, name) != NONE
                || indexOf(personNames, people.count, name) != NONE;
        }

        static int indexOf(int[] names, int count, int name) {
            for (int k = 0; k < count && k < names.length; k++) {
                if (names[k] == name) {
                    return k;
                }
            }
            return NONE;
        }

        int countCalls(int station) {
            int sum = 0;
            for (int t = 0; t < trains; t++) {
                for (int k = 0; k < lengths[t]; k++) {
                    sum += calls[t][k] == station ? 1 : 0;
                }
            }
            return sum;
        }

        int priced() {
            int bits = 0;
            for (int p = 0; p < people.count; p++) {
                bits |= prices[p] > 0 ? 1 << p : 0;
            }
            return bits;
        }

        int coin(int bits) {
            int sum = 0;
            for (int p = 0; p < people.count; p++) {
                sum += bit(bits, p) * prices[p];
            }
            return sum;
        }
    }

    /**
     * The text cut into words, numbers and semicolons; what can be none of these is BAD, and the last one.
     * A BAD one's value is how far behind its first byte no line goes on.
     */
    private static final class Tokens {
        static final int END = 0;
        static final int STATION = 1;
        static final int STOP = 2;
        static final int TRAIN = 3;
        static final int FROM = 4;
        static final int SEATS = 5;
        static final int CALLED = 6;
        static final int AFTER = 7;
        static final int PERSON = 8;
        static final int AGE = 9;
        static final int BORN = 10;
        static final int AT = 11;
        static final int TO = 12;
        static final int PRICE = 13;
        static final int NAME = 14;
        static final int NUMBER = 15;
        static final int SEMICOLON = 16;
        static final int BAD = 17;

        final int[] kinds = new int[TAPE + 1];
        final int[] starts = new int[TAPE + 1];
        final int[] values = new int[TAPE + 1];
        private int count = 0;
        // Where the latest word or number ended: another one that starts just there lacks a blank.
        private int edge = NONE;

        void split(Tape tape) {
            count = 0;
            edge = NONE;
            int at = 0;
            while (at < tape.length) {
                at = Math.max(at + 1, addAt(tape, at));
            }
            add(END, tape.length, 0);
        }

        private void add(int kind, int start, int value) {
            if (count < kinds.length) {
                kinds[count] = kind;
                starts[count] = start;
                values[count] = value;
                count++;
            }
        }

        /** Where what starts there ends; behind a BAD one nothing is asked, so that ends with the text. */
        private int addAt(Tape tape, int start) {
            int b = tape.bytes[start];
            if (b == 10 || b == 32) {
                return start + 1;
            }
            if (b == ';') {
                add(SEMICOLON, start, 0);
                return start + 1;
            }
            boolean apart = start != edge;
            if (apart && isLetter(b)) {
                return addWord(tape, start);
            }
            if (apart && isDigit(b)) {
                return addNumber(tape, start);
            }
            return addBad(tape, start, 0);
        }

        private int addBad(Tape tape, int start, int good) {
            add(BAD, start, good);
            return tape.length;
        }

        private int addWord(Tape tape, int start) {
            int end = start;
            int name = 0;
            while (end < tape.length && isLetter(tape.bytes[end])) {
                if (end - start < LETTERS) {
                    name |= tape.bytes[end] - 'a' + 1 << 5 * (end - start);
                }
                end++;
            }
            int own = ownWord(tape, start, end - start);
            if (own == NONE && end - start > LETTERS) {
                return addBad(tape, start, LETTERS);
            }
            return addWhole(own == NONE ? NAME : own, start, end, name);
        }

        private int addNumber(Tape tape, int start) {
            int end = start;
            int number = 0;
            while (end < tape.length && isDigit(tape.bytes[end])) {
                if (end - start == DIGITS) {
                    return addBad(tape, start, DIGITS);
                }
                number = number * 10 + tape.bytes[end] - '0';
                end++;
            }
            return addWhole(NUMBER, start, end, number);
        }

        private int addWhole(int kind, int start, int end, int value) {
            add(kind, start, value);
            edge = end;
            return end;
        }

        private static boolean isLetter(int b) {
            return b >= 'a' && b <= 'z';
        }

        private static boolean isDigit(int b) {
            return b >= '0' && b <= '9';
        }

        private static int ownWord(Tape tape, int start, int length) {
            for (int own = STATION; own <= PRICE; own++) {
                String spelling = spelling(own);
                boolean same = spelling.length() == length;
                for (int k = 0; same && k < length; k++) {
                    same = tape.bytes[start + k] == spelling.charAt(k);
                }
                if (same) {
                    return own;
                }
            }
            return NONE;
        }

        private static String spelling(int own) {
            switch (own) {
                case STATION:
                    return "station";
                case STOP:
                    return "stop";
                case TRAIN:
                    return "train";
                case FROM:
                    return "from";
                case SEATS:
                    return "seats";
                case CALLED:
                    return "calls";
                case AFTER:
                    return "after";
                case PERSON:
                    return "person";
                case AGE:
                    return "age";
                case BORN:
                    return "born";
                case AT:
                    return "at";
                case TO:
                    return "to";
                default:
                    return "price";
            }
        }
    }

    /** Reads a text into a draft, so that a fault leaves the line that there is. */
    private static final class Parser {
        int fault = 0;
        int place = NONE;
        private final Tokens tokens = new Tokens();
        private Line draft = new Line();
        private int index = 0;
        private int taken = 0;

        boolean read(Tape tape) {
            fault = 0;
            place = NONE;
            index = 0;
            draft.clear();
            tokens.split(tape);
            boolean sound = true;
            for (int n = 0; sound && n <= STATEMENTS && kind() != Tokens.END; n++) {
                sound = readStatement();
            }
            return sound;
        }

        /** Gives the draft away, for a line that is needed no more. */
        Line exchange(Line old) {
            Line read = draft;
            draft = old;
            return read;
        }

        private int kind() {
            return index < tokens.kinds.length ? tokens.kinds[index] : Tokens.END;
        }

        private boolean fail(int kind) {
            fault = kind;
            place = index < tokens.starts.length ? tokens.starts[index] : NONE;
            // A 91st statement is told at its first byte even where a word in it gets too long.
            if (kind == 1 && kind() == Tokens.BAD) {
                place += tokens.values[index];
            }
            return false;
        }

        private boolean readStatement() {
            if (draft.statements >= STATEMENTS) {
                return fail(5);
            }
            boolean sound;
            switch (kind()) {
                case Tokens.STATION:
                    sound = readStation();
                    break;
                case Tokens.STOP:
                    sound = readStop();
                    break;
                case Tokens.TRAIN:
                    sound = readTrain();
                    break;
                case Tokens.PERSON:
                    sound = readPerson();
                    break;
                default:
                    return fail(1);
            }
            draft.statements++;
            return sound && take(Tokens.SEMICOLON);
        }

        private boolean readStation() {
            int s = draft.stations;
            if (s >= STATIONS) {
                return fail(5);
            }
            if (!take(Tokens.STATION) || !takeNewName()) {
                return false;
            }
            draft.stationNames[s] = taken;
            draft.stations = s + 1;
            return true;
        }

        private boolean readStop() {
            if (!take(Tokens.STOP) || !takeNumber(1, 30)) {
                return false;
            }
            draft.stopMinutes = taken;
            return true;
        }

        private boolean readTrain() {
            int t = draft.trains;
            if (t >= TRAINS) {
                return fail(5);
            }
            if (!take(Tokens.TRAIN) || !takeNewName()) {
                return false;
            }
            draft.trainNames[t] = taken;
            if (!take(Tokens.FROM) || !takeNumber(0, 1439)) {
                return false;
            }
            draft.from[t] = taken;
            if (!take(Tokens.SEATS) || !takeNumber(1, 12)) {
                return false;
            }
            draft.seats[t] = taken;
            if (!readCalls(t)) {
                return false;
            }
            draft.trains = t + 1;
            return true;
        }

        private boolean readCalls(int t) {
            if (!take(Tokens.CALLED) || !takeStation(0)) {
                return false;
            }
            draft.calls[t][0] = taken;
            int used = 1 << taken;
            int n = 1;
            while (n < 2 || kind() == Tokens.AFTER) {
                if (n >= CALLS) {
                    return fail(1);
                }
                if (!take(Tokens.AFTER) || !takeNumber(1, 99)) {
                    return false;
                }
                draft.after[t][n] = taken;
                if (!takeStation(used)) {
                    return false;
                }
                draft.calls[t][n] = taken;
                used |= 1 << taken;
                n++;
            }
            draft.lengths[t] = n;
            return true;
        }

        private boolean readPerson() {
            int p = draft.people.count;
            if (p >= PEOPLE) {
                return fail(5);
            }
            if (!take(Tokens.PERSON) || !takeNewName()) {
                return false;
            }
            draft.personNames[p] = taken;
            if (!take(Tokens.AGE) || !takeNumber(0, OLDEST)) {
                return false;
            }
            draft.people.age[p] = taken;
            if (!readBirth(p) || !take(Tokens.AT) || !takeStation(0)) {
                return false;
            }
            draft.people.at[p] = taken;
            if (!take(Tokens.TO) || !takeStation(0)) {
                return false;
            }
            draft.people.to[p] = taken;
            if (!take(Tokens.PRICE) || !takeNumber(0, 99)) {
                return false;
            }
            draft.prices[p] = taken;
            draft.people.count = p + 1;
            return true;
        }

        private boolean readBirth(int p) {
            if (!take(Tokens.BORN) || !takeStation(0)) {
                return false;
            }
            draft.people.born[p] = taken;
            draft.people.second[p] = NONE;
            if (kind() == Tokens.NAME) {
                if (!takeStation(1 << draft.people.born[p])) {
                    return false;
                }
                draft.people.second[p] = taken;
            }
            return true;
        }

        private boolean take(int kind) {
            if (kind() != kind) {
                return fail(1);
            }
            index++;
            return true;
        }

        private boolean takeNumber(int least, int most) {
            if (kind() != Tokens.NUMBER) {
                return fail(1);
            }
            taken = tokens.values[index];
            if (taken < least || taken > most) {
                return fail(4);
            }
            index++;
            return true;
        }

        private boolean takeNewName() {
            if (kind() != Tokens.NAME) {
                return fail(1);
            }
            taken = tokens.values[index];
            if (draft.hasName(taken)) {
                return fail(2);
            }
            index++;
            return true;
        }

        /** A station that is none of those used. */
        private boolean takeStation(int used) {
            if (kind() != Tokens.NAME) {
                return fail(1);
            }
            taken = Line.indexOf(draft.stationNames, draft.stations, tokens.values[index]);
            if (taken == NONE || bit(used, taken) == 1) {
                return fail(3);
            }
            index++;
            return true;
        }
    }

    /** The latest acts, as what was ahead of each; the oldest one's place is used again. */
    private static final class Acts {
        int count = 0;
        private final People[] saved = new People[ACTS];
        private int top = 0;

        Acts() {
            for (int k = 0; k < ACTS; k++) {
                saved[k] = new People();
            }
        }

        void save(People people) {
            People slot = saved[top];
            if (slot != null) {
                slot.copy(people);
                top = (top + 1) % ACTS;
                count = Math.min(count + 1, ACTS);
            }
        }

        boolean restore(People people) {
            int latest = (top + ACTS - 1) % ACTS;
            People slot = saved[latest];
            if (count == 0 || slot == null) {
                return false;
            }
            people.copy(slot);
            top = latest;
            count--;
            return true;
        }
    }

    /** Births and wishes as bits of people, by stations and by the trains' calls. */
    private static final class Ties {
        final int[] bornAt = new int[STATIONS];
        final int[] wishAt = new int[STATIONS];
        // Born between a call and the one ahead of it.
        final int[][] between = new int[TRAINS][CALLS];
        // Whose wish comes behind a call.
        final int[][] later = new int[TRAINS][CALLS];

        void learn(Line line, People people) {
            for (int s = 0; s < STATIONS; s++) {
                bornAt[s] = people.bornAt(s);
                wishAt[s] = 0;
            }
            for (int p = 0; p < people.count; p++) {
                wishAt[people.to[p]] |= 1 << p;
            }
            for (int t = 0; t < line.trains; t++) {
                learnTrain(line, people, t);
            }
        }

        private void learnTrain(Line line, People people, int t) {
            int wishes = 0;
            for (int k = line.lengths[t] - 1; k >= 0; k--) {
                later[t][k] = wishes;
                wishes |= wishAt[line.calls[t][k]];
                between[t][k] = k == 0 ? 0 : people.bornBetween(line.calls[t][k - 1], line.calls[t][k]);
            }
        }
    }

    /** What happened at each call of each train, as bits of people; stopped and between are bits of calls. */
    private static final class Log {
        final int[][] comes = new int[TRAINS][CALLS];
        final int[][] came = new int[TRAINS][CALLS];
        final int[][] off = new int[TRAINS][CALLS];
        final int[][] on = new int[TRAINS][CALLS];
        final int[] stopped = new int[TRAINS];
        final int[] between = new int[TRAINS];

        int countStops(int trains) {
            int sum = 0;
            for (int t = 0; t < trains; t++) {
                sum += Integer.bitCount(stopped[t]);
            }
            return sum;
        }

        int countBetween(int trains) {
            int sum = 0;
            for (int t = 0; t < trains; t++) {
                sum += Integer.bitCount(between[t]);
            }
            return sum;
        }

        int lastMinute(Line line) {
            int last = NONE;
            for (int t = 0; t < line.trains; t++) {
                last = Math.max(last, comes[t][line.lengths[t] - 1]);
            }
            return last;
        }
    }

    /** A day from its first minute on: who is where and what each train does. */
    private static final class Day {
        final Ties ties = new Ties();
        final Log log = new Log();
        final int[] at = new int[PEOPLE];
        final int[] offMinute = new int[PEOPLE];
        final int[] rides = new int[PEOPLE];
        final int[] next = new int[TRAINS];
        final int[] leaves = new int[TRAINS];
        int arrived = 0;
        private final int[] due = new int[TRAINS];
        private final int[] aboard = new int[TRAINS];
        private final int[] here = new int[STATIONS];
        private Line line = new Line();
        private People people = new People();
        private int hired = 0;
        private int keeping = 0;
        private int ridden = 0;
        private int called = 0;
        private int served = 0;

        /** Whose day it is; many may then go by from the same start. */
        void prepare(Line line, People people) {
            this.line = line;
            this.people = people;
            ties.learn(line, people);
        }

        /** Absent ones are not there at all; keeping ones get off at last stations alone. */
        void go(int hired, int absent, int keeping, int until) {
            this.hired = hired;
            this.keeping = keeping;
            placePeople(absent);
            placeTrains();
            int t = firstDue(until);
            for (int n = 0; n < TRAINS * CALLS && t != NONE; n++) {
                come(t);
                t = firstDue(until);
            }
        }

        private void placePeople(int absent) {
            arrived = 0;
            ridden = 0;
            for (int s = 0; s < STATIONS; s++) {
                here[s] = 0;
            }
            for (int p = 0; p < people.count; p++) {
                at[p] = people.at[p];
                offMinute[p] = NONE;
                rides[p] = 0;
                here[at[p]] |= 1 << p & ~absent;
            }
        }

        private void placeTrains() {
            called = 0;
            served = 0;
            for (int t = 0; t < line.trains; t++) {
                next[t] = 0;
                due[t] = line.from[t];
                leaves[t] = NONE;
                aboard[t] = 0;
                log.stopped[t] = 0;
                log.between[t] = 0;
            }
        }

        private int firstDue(int until) {
            int first = NONE;
            int minute = until;
            for (int t = line.trains - 1; t >= 0; t--) {
                if (next[t] < line.lengths[t] && due[t] <= minute) {
                    first = t;
                    minute = due[t];
                }
            }
            return first;
        }

        private void come(int t) {
            int k = next[t];
            int station = line.calls[t][k];
            boolean last = k == line.lengths[t] - 1;
            boolean stopping = k == 0 || last || (aboard[t] & ties.bornAt[station]) != 0;
            log.comes[t][k] = due[t];
            log.came[t][k] = aboard[t];
            log.off[t][k] = 0;
            log.on[t][k] = 0;
            called |= 1 << station;
            if (stopping) {
                served |= 1 << station;
                log.stopped[t] |= 1 << k;
                letOff(t, k, last);
                letOn(t, k, last);
            }
            leaves[t] = due[t] + (stopping && k > 0 ? line.stopMinutes : 0);
            next[t] = k + 1;
            if (!last) {
                headFor(t, k + 1);
            }
        }

        private void letOff(int t, int k, boolean last) {
            int station = line.calls[t][k];
            int off = last ? aboard[t] : aboard[t] & ties.wishAt[station] & ~hired & ~keeping;
            log.off[t][k] = off;
            aboard[t] &= ~off;
            here[station] |= off;
            arrived |= off & ties.wishAt[station];
            for (int p = 0; p < people.count && off != 0; p++) {
                if (bit(off, p) == 1) {
                    at[p] = station;
                    offMinute[p] = due[t];
                }
            }
        }

        private void letOn(int t, int k, boolean last) {
            int station = line.calls[t][k];
            int willing = last ? 0 : here[station] & (hired & ~ridden | ~hired & ties.later[t][k]);
            int free = line.seats[t] - Integer.bitCount(aboard[t]);
            int on = 0;
            for (int p = 0; p < people.count && willing != 0; p++) {
                if (bit(willing, p) == 1 && free > 0) {
                    on |= 1 << p;
                    rides[p]++;
                    free--;
                }
            }
            log.on[t][k] = on;
            aboard[t] |= on;
            here[station] &= ~on;
            ridden |= on;
        }

        private void headFor(int t, int k) {
            boolean between = (aboard[t] & ties.between[t][k]) != 0;
            due[t] = leaves[t] + line.after[t][k] + (between ? line.stopMinutes : 0);
            if (between) {
                log.between[t] |= 1 << k;
            }
        }

        /** The train that one is aboard. */
        int trainOf(int p) {
            for (int t = 0; t < line.trains; t++) {
                if (bit(aboard[t], p) == 1) {
                    return t;
                }
            }
            return NONE;
        }

        int stranded() {
            int bits = 0;
            for (int p = 0; p < people.count; p++) {
                if (offMinute[p] != NONE && at[p] != people.to[p]) {
                    bits |= 1 << p;
                }
            }
            return bits & ~hired;
        }

        /** Who, not hired, is behind the whole day where he wishes to be. */
        int good() {
            int bits = 0;
            for (int s = 0; s < line.stations; s++) {
                bits |= here[s] & ties.wishAt[s];
            }
            return bits & ~hired;
        }

        int countGood() {
            return Integer.bitCount(good());
        }

        boolean servesAll() {
            return called == served;
        }
    }

    /** What the day of each hiring brings; kept till something changes, as many calls ask for it. */
    private static final class Hirings {
        boolean known = false;
        private final int[] there = new int[SETS];
        private final int[] coins = new int[SETS];
        private final boolean[] serves = new boolean[SETS];
        private int priced = 0;

        void learn(Line line, People people, Day day) {
            if (known) {
                return;
            }
            known = true;
            priced = line.priced();
            day.prepare(line, people);
            for (int bits = 0; bits <= priced; bits++) {
                if (isHiring(bits)) {
                    day.go(bits, 0, 0, LAST_MINUTE);
                    there[bits] = day.good();
                    coins[bits] = line.coin(bits);
                    serves[bits] = day.servesAll();
                }
            }
        }

        private boolean isHiring(int bits) {
            return bits < SETS && (bits & ~priced) == 0;
        }

        int countThere(int bits) {
            return bits >= 0 && bits < SETS ? Integer.bitCount(there[bits]) : 0;
        }

        /** By which all who are needed get there. */
        int cheapest(int need) {
            int best = NONE;
            for (int bits = 0; bits <= priced; bits++) {
                if (isHiring(bits) && (there[bits] & need) == need && (best == NONE || coins[bits] < coins[best])) {
                    best = bits;
                }
            }
            return best;
        }

        int best() {
            int best = 0;
            for (int bits = 1; bits <= priced; bits++) {
                if (isHiring(bits)) {
                    int more = countThere(bits) - countThere(best);
                    best = more > 0 || more == 0 && coins[bits] < coins[best] ? bits : best;
                }
            }
            return best;
        }

        int fewest() {
            int best = NONE;
            for (int bits = 0; bits <= priced; bits++) {
                if (isHiring(bits) && serves[bits] && (best == NONE || isSmaller(bits, best))) {
                    best = bits;
                }
            }
            return best;
        }

        private boolean isSmaller(int bits, int other) {
            int more = Integer.bitCount(bits) - Integer.bitCount(other);
            return more < 0 || more == 0 && coins[bits] < coins[other];
        }
    }
}
