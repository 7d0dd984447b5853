import java.util.ArrayList;
import java.util.HashMap;
import java.util.List;
import java.util.Map;
import java.util.Set;
import java.util.TreeSet;
import java.util.function.IntPredicate;

/**
 * The document once more, written without regard to speed or the language's rules: days go by minute by
 * minute, sets are tried one by one. Its answers are compared with the program's.
 */
final class Model {
    static final class Train {
        String name;
        int from;
        int seats;
        List<Integer> calls = new ArrayList<>();
        List<Integer> after = new ArrayList<>();
    }

    static final class Person {
        String name;
        int age;
        int born;
        int second = -1;
        int at;
        int to;
        int price;
        boolean hired;
        // Of the day that is tried.
        Train aboard;
        int offAt = -1;
        int offMinute = -1;
        boolean arrived;
        Set<Train> rode = new TreeSet<>((a, b) -> a.name.compareTo(b.name));
        boolean keeps;

        Person copy() {
            Person p = new Person();
            p.name = name;
            p.age = age;
            p.born = born;
            p.second = second;
            p.at = at;
            p.to = to;
            p.price = price;
            p.hired = hired;
            return p;
        }

        boolean bornAt(int s) {
            return second == -1 && born == s;
        }
    }

    static final class Wrong extends RuntimeException {
        private static final long serialVersionUID = 1L;
        final int kind;
        final int place;

        Wrong(int kind, int place) {
            this.kind = kind;
            this.place = place;
        }
    }

    static final class World {
        List<String> stations = new ArrayList<>();
        List<Train> trains = new ArrayList<>();
        List<Person> people = new ArrayList<>();
        int stop = 4;
        int statements = 0;
        int year = 0;

        World copy() {
            World w = new World();
            w.stations = stations;
            w.trains = trains;
            w.stop = stop;
            w.statements = statements;
            w.year = year;
            for (Person p : people) {
                w.people.add(p.copy());
            }
            return w;
        }

        int bits(java.util.function.Predicate<Person> which) {
            int bits = 0;
            for (int p = 0; p < people.size(); p++) {
                if (which.test(people.get(p))) {
                    bits |= 1 << p;
                }
            }
            return bits;
        }

        int count(java.util.function.Predicate<Person> which) {
            return Integer.bitCount(bits(which));
        }
    }

    /** One call of a train in a day. */
    static final class Visit {
        int minute;
        boolean stopped;
        boolean between;
        int came;
        int off;
        int on;
        int leaves;
    }

    /** The day of a world that nobody else uses. */
    static final class Trial {
        final World w;
        final Map<Train, List<Visit>> visits = new HashMap<>();

        Trial(World w, int until) {
            this.w = w;
            Map<Train, Integer> due = new HashMap<>();
            Map<Train, Boolean> between = new HashMap<>();
            for (Train t : w.trains) {
                visits.put(t, new ArrayList<>());
                due.put(t, t.from);
                between.put(t, false);
            }
            for (int minute = 0; minute <= until && minute <= 2600; minute++) {
                for (Train t : w.trains) {
                    if (visits.get(t).size() < t.calls.size() && due.get(t) == minute) {
                        visit(t, minute, due, between);
                    }
                }
            }
        }

        private void visit(Train t, int minute, Map<Train, Integer> due, Map<Train, Boolean> between) {
            Visit v = new Visit();
            int k = visits.get(t).size();
            int station = t.calls.get(k);
            visits.get(t).add(v);
            v.minute = minute;
            v.between = between.get(t);
            v.came = w.bits(p -> p.aboard == t);
            boolean first = k == 0;
            boolean last = k + 1 == t.calls.size();
            v.stopped = first || last || w.count(p -> p.aboard == t && p.bornAt(station)) > 0;
            if (v.stopped) {
                v.off = w.bits(p -> p.aboard == t && (last || p.to == station && !p.hired && !p.keeps));
                for (Person p : w.people) {
                    if (p.aboard == t && (last || p.to == station && !p.hired && !p.keeps)) {
                        p.aboard = null;
                        p.at = station;
                        p.offAt = station;
                        p.offMinute = minute;
                        p.arrived |= p.to == station;
                    }
                }
            }
            if (v.stopped && !last) {
                for (int i = 0; i < w.people.size(); i++) {
                    Person p = w.people.get(i);
                    boolean will = p.hired ? p.rode.isEmpty() : t.calls.indexOf(p.to) > k;
                    if (p.aboard == null && p.at == station && will && w.count(q -> q.aboard == t) < t.seats) {
                        p.aboard = t;
                        p.rode.add(t);
                        v.on |= 1 << i;
                    }
                }
            }
            v.leaves = first || !v.stopped ? minute : minute + w.stop;
            if (!last) {
                int other = t.calls.get(k + 1);
                boolean halts = w.count(p -> p.aboard == t && (p.born == station && p.second == other
                    || p.born == other && p.second == station)) > 0;
                between.put(t, halts);
                due.put(t, v.leaves + t.after.get(k + 1) + (halts ? w.stop : 0));
            }
        }

        int goodBits() {
            return w.bits(p -> !p.hired && p.at == p.to);
        }

        int good() {
            return Integer.bitCount(goodBits());
        }

        int arrived() {
            return w.count(p -> p.arrived);
        }

        int stranded() {
            return w.count(Trial::isStranded);
        }

        static boolean isStranded(Person p) {
            return p.offAt != -1 && p.offAt != p.to && !p.hired;
        }
    }

    private byte[] tape = new byte[0];
    private World world = new World();
    private List<World> past = new ArrayList<>();
    private long x = 1;
    private int fault = 0;
    private int place = -1;
    private final int[] refused = new int[6];
    private int[] written = new int[0];

    private int refuse(int kind) {
        refused[kind]++;
        return -1;
    }

    private boolean deny(int kind) {
        refused[kind]++;
        return false;
    }

    int feed(int a, int b, int c, int d, int e) {
        if (tape.length > 1580) {
            return refuse(0);
        }
        java.nio.ByteBuffer buffer = java.nio.ByteBuffer.allocate(tape.length + 20);
        buffer.put(tape).putInt(a).putInt(b).putInt(c).putInt(d).putInt(e);
        tape = buffer.array();
        return tape.length;
    }

    boolean end(int n) {
        if (n < 0 || n > tape.length) {
            return deny(0);
        }
        tape = java.util.Arrays.copyOf(tape, n);
        return true;
    }

    int line() {
        String text = new String(tape, java.nio.charset.StandardCharsets.ISO_8859_1);
        tape = new byte[0];
        fault = 0;
        place = -1;
        try {
            world = new Reading(text).world();
            past.clear();
            return world.statements;
        } catch (Wrong w) {
            fault = w.kind;
            place = w.place;
            return refuse(1);
        }
    }

    /** Reads along the text, one thing at a time, just when it is asked. */
    static final class Reading {
        static final List<String> OWN = List.of("station", "stop", "train", "from", "seats", "calls", "after",
            "person", "age", "born", "at", "to", "price");
        final String text;
        int pos = 0;
        int start;
        String thing = "";
        final World w = new World();
        final Set<String> names = new TreeSet<>();

        Reading(String text) {
            this.text = text;
        }

        World world() {
            step();
            while (!thing.isEmpty()) {
                int limit = thing.equals("station") ? 14 - w.stations.size() : thing.equals("train") ? 6 - w.trains.size()
                    : thing.equals("person") ? 10 - w.people.size() : thing.equals("stop") ? 1 : -1;
                if (limit < 0) {
                    throw new Wrong(1, start);
                }
                if (limit == 0) {
                    throw new Wrong(5, start);
                }
                String kind = thing;
                step();
                if (kind.equals("station")) {
                    w.stations.add(given());
                } else if (kind.equals("stop")) {
                    w.stop = number(1, 30);
                } else if (kind.equals("train")) {
                    train();
                } else {
                    person();
                }
                w.statements++;
                word(";");
            }
            return w;
        }

        void train() {
            Train t = new Train();
            t.name = given();
            word("from");
            t.from = number(0, 1439);
            word("seats");
            t.seats = number(1, 12);
            word("calls");
            t.after.add(0);
            t.calls.add(asked(t.calls));
            do {
                if (t.calls.size() == 8) {
                    throw new Wrong(1, start);
                }
                word("after");
                t.after.add(number(1, 99));
                t.calls.add(asked(t.calls));
            } while (thing.equals("after"));
            w.trains.add(t);
        }

        void person() {
            Person p = new Person();
            p.name = given();
            word("age");
            p.age = number(0, 99);
            word("born");
            p.born = asked(List.of());
            if (!thing.equals("at")) {
                p.second = asked(List.of(p.born));
            }
            word("at");
            p.at = asked(List.of());
            word("to");
            p.to = asked(List.of());
            word("price");
            p.price = number(0, 99);
            w.people.add(p);
        }

        void step() {
            boolean touching = pos > 0 && Character.isLetterOrDigit(text.charAt(pos - 1));
            while (pos < text.length() && (text.charAt(pos) == ' ' || text.charAt(pos) == '\n')) {
                pos++;
                touching = false;
            }
            start = pos;
            String rest = text.substring(pos);
            if (rest.isEmpty()) {
                thing = "";
                return;
            }
            if (w.statements == 90 && thing.equals(";")) {
                throw new Wrong(5, start);
            }
            if (touching && rest.charAt(0) != ';') {
                throw new Wrong(1, start);
            }
            java.util.regex.Matcher m = java.util.regex.Pattern.compile("^([a-z]+|[0-9]+|;)").matcher(rest);
            if (!m.find()) {
                throw new Wrong(1, start);
            }
            thing = m.group();
            boolean isWord = thing.charAt(0) >= 'a';
            boolean isNumber = Character.isDigit(thing.charAt(0));
            if (isWord && thing.length() > 6 && !OWN.contains(thing)) {
                throw new Wrong(1, start + 6);
            }
            if (isNumber && thing.length() > 4) {
                throw new Wrong(1, start + 4);
            }
            pos += thing.length();
        }

        void word(String due) {
            if (!thing.equals(due)) {
                throw new Wrong(1, start);
            }
            step();
        }

        int number(int least, int most) {
            if (!thing.matches("[0-9]+")) {
                throw new Wrong(1, start);
            }
            int n = Integer.parseInt(thing);
            if (n < least || n > most) {
                throw new Wrong(4, start);
            }
            step();
            return n;
        }

        String name() {
            if (!thing.matches("[a-z]+") || OWN.contains(thing)) {
                throw new Wrong(1, start);
            }
            return thing;
        }

        String given() {
            String n = name();
            if (!names.add(n)) {
                throw new Wrong(2, start);
            }
            step();
            return n;
        }

        int asked(List<Integer> but) {
            int s = w.stations.indexOf(name());
            if (s < 0 || but.contains(s)) {
                throw new Wrong(3, start);
            }
            step();
            return s;
        }
    }

    int fault(int what) {
        return what == 0 ? fault : what == 1 ? place : -1;
    }

    int has(int what) {
        switch (what) {
            case 0: return world.stations.size();
            case 1: return world.trains.size();
            case 2: return world.people.size();
            case 3: return world.count(p -> p.hired);
            case 4: return coin(world.bits(p -> p.hired));
            case 5: return world.stop;
            case 6: return world.year;
            case 7: return deadOnes(world).size();
            case 8: return past.size();
            case 9: return (int) x;
            case 10: return world.count(p -> p.at == p.to);
            default: return -1;
        }
    }

    private int coin(int bits) {
        int sum = 0;
        for (int p = 0; p < world.people.size(); p++) {
            sum += (bits >> p) % 2 * world.people.get(p).price;
        }
        return sum;
    }

    private static List<Integer> deadOnes(World w) {
        List<Integer> dead = new ArrayList<>();
        for (int s = 0; s < w.stations.size(); s++) {
            int station = s;
            if (w.count(p -> p.bornAt(station)) == 0) {
                dead.add(s);
            }
        }
        return dead;
    }

    int letter(int kind, int which, int k) {
        List<String> names = new ArrayList<>();
        if (kind == 0) {
            names.addAll(world.stations);
        } else if (kind == 1) {
            world.trains.forEach(t -> names.add(t.name));
        } else if (kind == 2) {
            world.people.forEach(p -> names.add(p.name));
        }
        if (which < 0 || which >= names.size() || k < 0 || k > 5) {
            return -1;
        }
        String n = names.get(which);
        return k < n.length() ? n.charAt(k) - 96 : 0;
    }

    private boolean isStation(int s) {
        return s >= 0 && s < world.stations.size();
    }

    private boolean isTrain(int t) {
        return t >= 0 && t < world.trains.size();
    }

    private boolean isPerson(int p) {
        return p >= 0 && p < world.people.size();
    }

    private boolean isCall(int t, int k) {
        return isTrain(t) && k >= 0 && k < world.trains.get(t).calls.size();
    }

    int station(int station, int what) {
        if (!isStation(station)) {
            return -1;
        }
        switch (what) {
            case 0: return world.bits(p -> p.bornAt(station));
            case 1: return world.count(p -> p.at == station);
            case 2: return world.count(p -> p.to == station);
            case 3: return (int) world.trains.stream().filter(t -> t.calls.contains(station)).count();
            default: return -1;
        }
    }

    int train(int train, int what) {
        if (!isTrain(train)) {
            return -1;
        }
        Train t = world.trains.get(train);
        if (what == 0 || what == 1 || what == 2) {
            return what == 0 ? t.from : what == 1 ? t.seats : t.calls.size();
        }
        if (what >= 10 && what <= 17 && isCall(train, what - 10)) {
            return t.calls.get(what - 10);
        }
        if (what >= 21 && what <= 27 && isCall(train, what - 20)) {
            return t.after.get(what - 20);
        }
        return -1;
    }

    int person(int person, int what) {
        if (!isPerson(person) || what < 0 || what > 6) {
            return -1;
        }
        Person p = world.people.get(person);
        return new int[] {p.age, p.born, p.second, p.at, p.to, p.price, p.hired ? 1 : 0}[what];
    }

    private void act() {
        past.add(world.copy());
        if (past.size() > 20) {
            past.remove(0);
        }
    }

    boolean hire(int person, boolean is) {
        if (!isPerson(person) || world.people.get(person).price == 0 || world.people.get(person).hired == is) {
            return deny(2);
        }
        act();
        world.people.get(person).hired = is;
        return true;
    }

    boolean wish(int person, int station) {
        if (!isPerson(person) || !isStation(station) || world.people.get(person).to == station) {
            return deny(2);
        }
        act();
        world.people.get(person).to = station;
        return true;
    }

    boolean move(int person, int station) {
        if (!isPerson(person) || !isStation(station) || world.people.get(person).at == station) {
            return deny(2);
        }
        act();
        world.people.get(person).at = station;
        return true;
    }

    private static int passDay(World w) {
        World tried = w.copy();
        int arrived = new Trial(tried, 9999).arrived();
        for (int p = 0; p < w.people.size(); p++) {
            w.people.get(p).at = tried.people.get(p).at;
        }
        return arrived;
    }

    int day() {
        act();
        return passDay(world);
    }

    private int passYear(World w) {
        World before = w.copy();
        passDay(w);
        for (int i = 0; i < w.people.size(); i++) {
            Person p = w.people.get(i);
            if (p.at == p.to) {
                p.to = before.people.get(i).at;
            }
        }
        int died = 0;
        for (Person p : w.people) {
            x = (1103515245L * x + 12345L) % (1L << 31);
            if (x / 64 % 100 < p.age) {
                died++;
                p.to = p.second == -1 ? p.born : p.to;
                p.age = 0;
                p.born = p.at;
                p.second = -1;
            } else {
                p.age = Math.min(99, p.age + 1);
            }
        }
        w.year++;
        return died;
    }

    int years(int n) {
        if (n < 1 || n > 40 || world.year + n > 9999) {
            return refuse(3);
        }
        act();
        int died = 0;
        for (int y = 0; y < n; y++) {
            died += passYear(world);
        }
        return died;
    }

    boolean undo() {
        if (past.isEmpty()) {
            return deny(4);
        }
        world = past.remove(past.size() - 1);
        return true;
    }

    boolean seed(int seed) {
        if (seed < 0) {
            return deny(5);
        }
        x = seed;
        return true;
    }

    private Trial trial() {
        return new Trial(world.copy(), 9999);
    }

    private Visit visit(Trial trial, int train, int k) {
        return trial.visits.get(world.trains.get(train)).get(k);
    }

    int stops(int train, int k, int what) {
        if (!isCall(train, k) || what < 0 || what > 5) {
            return -1;
        }
        Visit v = visit(trial(), train, k);
        return new int[] {v.stopped ? 1 : 0, v.minute, Integer.bitCount(v.off), Integer.bitCount(v.on),
            Integer.bitCount(v.came) - Integer.bitCount(v.off) + Integer.bitCount(v.on), v.between ? 1 : 0}[what];
    }

    int fares(int person, int what) {
        if (!isPerson(person) || what < 0 || what > 4) {
            return -1;
        }
        Person p = trial().w.people.get(person);
        return new int[] {p.at, p.offMinute, p.rode.size(), p.arrived ? 1 : 0, Trial.isStranded(p) ? 1 : 0}[what];
    }

    int whole(int what) {
        Trial t = trial();
        int stops = 0;
        int between = 0;
        int last = -1;
        for (List<Visit> visits : t.visits.values()) {
            for (Visit v : visits) {
                stops += v.stopped ? 1 : 0;
                between += v.between ? 1 : 0;
                last = Math.max(last, v.minute);
            }
        }
        return what < 0 || what > 5 ? -1 : new int[] {t.arrived(), t.stranded(), stops, between, last, t.good()}[what];
    }

    private World hiredWorld(int bits) {
        World w = world.copy();
        for (int p = 0; p < w.people.size(); p++) {
            w.people.get(p).hired = (bits >> p) % 2 == 1;
        }
        return w;
    }

    /** All hirings, those that are wanted less first: fewer coins (and, for places, people), then fewer bits. */
    private List<Integer> hirings(boolean byPeople) {
        List<Integer> all = new ArrayList<>();
        for (int bits = 0; bits < 1 << world.people.size(); bits++) {
            if ((bits & world.bits(p -> p.price == 0)) == 0) {
                all.add(bits);
            }
        }
        all.sort((a, b) -> byPeople && Integer.bitCount(a) != Integer.bitCount(b)
            ? Integer.bitCount(a) - Integer.bitCount(b) : coin(a) != coin(b) ? coin(a) - coin(b) : a - b);
        return all;
    }

    private int firstHiring(boolean byPeople, IntPredicate does) {
        for (int bits : hirings(byPeople)) {
            if (does.test(bits)) {
                return bits;
            }
        }
        return -1;
    }

    int least(int person, int what) {
        if (!isPerson(person) || what < 0 || what > 1) {
            return -1;
        }
        int bits = firstHiring(false, b -> (new Trial(hiredWorld(b), 9999).goodBits() >> person) % 2 == 1);
        return bits == -1 || what == 1 ? bits : coin(bits);
    }

    int most(int what) {
        int best = -1;
        int most = -1;
        for (int bits : hirings(false)) {
            int good = new Trial(hiredWorld(bits), 9999).good();
            if (good > most) {
                most = good;
                best = bits;
            }
        }
        return what == 0 ? most : what == 1 ? coin(best) : what == 2 ? best : -1;
    }

    private boolean servesAll(int hired) {
        Trial trial = new Trial(hiredWorld(hired), 9999);
        Set<Integer> called = new TreeSet<>();
        Set<Integer> stopped = new TreeSet<>();
        for (Train t : world.trains) {
            called.addAll(t.calls);
            for (int k = 0; k < t.calls.size(); k++) {
                if (trial.visits.get(t).get(k).stopped) {
                    stopped.add(t.calls.get(k));
                }
            }
        }
        return stopped.containsAll(called);
    }

    int places(int what) {
        int bits = firstHiring(true, this::servesAll);
        return bits == -1 ? -1 : what == 0 ? Integer.bitCount(bits) : what == 1 ? coin(bits) : what == 2 ? bits : -1;
    }

    boolean hiring(int bits) {
        for (int p = 0; p < 32; p++) {
            if ((bits >>> p & 1) == 1 && (!isPerson(p) || world.people.get(p).price == 0)) {
                return deny(2);
            }
        }
        if (bits != world.bits(p -> p.hired)) {
            act();
            world = hiredWorld(bits);
        }
        return true;
    }

    int worth(int person) {
        if (!isPerson(person)) {
            return -1;
        }
        World without = world.copy();
        without.people.remove(person);
        return 100 + trial().good() - new Trial(without, 9999).good();
    }

    int bear(int person, int what) {
        if (!isPerson(person) || what < 0 || what > 1) {
            return -1;
        }
        int best = -1;
        int most = -1;
        for (int s = 0; s < world.stations.size(); s++) {
            World w = world.copy();
            w.people.get(person).born = s;
            w.people.get(person).second = -1;
            int good = new Trial(w, 9999).good();
            if (good > most) {
                most = good;
                best = s;
            }
        }
        return what == 0 ? best : most;
    }

    int stay(int person) {
        if (!isPerson(person)) {
            return -1;
        }
        World w = world.copy();
        w.people.get(person).keeps = true;
        return new Trial(w, 9999).good();
    }

    int seen(int train, int bits, int what) {
        if (!isTrain(train) || what < 0 || what > 2) {
            return -1;
        }
        Train t = world.trains.get(train);
        int n = t.calls.size();
        if (bits < 0 || bits >= 1 << n || bits % 2 == 0 || bits < 1 << n - 1) {
            return -1;
        }
        List<Integer> sets = new ArrayList<>();
        for (int set = 0; set < 1 << world.people.size(); set++) {
            boolean just = true;
            for (int k = 1; k < n - 1; k++) {
                int station = t.calls.get(k);
                boolean stops = (world.bits(p -> p.bornAt(station)) & set) != 0;
                just &= stops == ((bits >> k) % 2 == 1);
            }
            if (just) {
                sets.add(set);
            }
        }
        int all = sets.isEmpty() ? 0 : sets.stream().reduce((a, b) -> a & b).get();
        int some = sets.stream().reduce(0, (a, b) -> a | b);
        return new int[] {sets.size(), all, some}[what];
    }

    int dead(int k) {
        List<Integer> dead = deadOnes(world);
        return k >= 0 && k < dead.size() ? dead.get(k) : -1;
    }

    int runs(int n, int years, int station, int what) {
        if (n < 1 || n > 20 || years < 1 || years > 20 || !isStation(station) || what < 0 || what > 1) {
            return -1;
        }
        int dead = 0;
        int died = 0;
        for (int r = 0; r < n; r++) {
            World w = world.copy();
            for (int y = 0; y < years && w.year < 9999; y++) {
                died += passYear(w);
            }
            dead += deadOnes(w).contains(station) ? 1 : 0;
        }
        return what == 0 ? dead : died;
    }

    int because(int train, int k) {
        if (!isCall(train, k)) {
            return -1;
        }
        Train t = world.trains.get(train);
        if (k == 0 || k == t.calls.size() - 1) {
            return 0;
        }
        int station = t.calls.get(k);
        return visit(trial(), train, k).came & world.bits(p -> p.bornAt(station));
    }

    int left(int train, int k) {
        if (!isCall(train, k)) {
            return -1;
        }
        Trial trial = trial();
        int gone = 0;
        for (int j = 0; j < k; j++) {
            gone |= visit(trial, train, j).off;
        }
        int station = world.trains.get(train).calls.get(k);
        return gone & world.bits(p -> p.bornAt(station));
    }

    int child(int person, int minute, int what) {
        if (!isPerson(person) || minute < 0 || minute > 9999 || what < 0 || what > 1) {
            return -1;
        }
        Trial trial = new Trial(world.copy(), minute);
        Person p = trial.w.people.get(person);
        if (p.aboard == null) {
            return what == 0 ? p.at : -1;
        }
        List<Visit> visits = trial.visits.get(p.aboard);
        Visit v = visits.get(visits.size() - 1);
        if (minute > v.leaves) {
            return p.aboard.calls.get(visits.size() - 1 + what);
        }
        return what == 0 ? p.aboard.calls.get(visits.size() - 1) : -1;
    }

    int settles(int what) {
        World w = world.copy();
        List<Integer> goods = new ArrayList<>();
        boolean still = false;
        while (!still && goods.size() < 30) {
            World before = w.copy();
            passDay(w);
            still = true;
            for (int p = 0; p < w.people.size(); p++) {
                still &= w.people.get(p).at == before.people.get(p).at;
            }
            goods.add(w.count(p -> !p.hired && p.at == p.to));
        }
        int elsewhere = 0;
        for (int p = 0; p < w.people.size(); p++) {
            elsewhere += w.people.get(p).at == world.people.get(p).at ? 0 : 1;
        }
        int[] answers = {still ? goods.size() : 31, goods.get(goods.size() - 1), elsewhere,
            1 + goods.indexOf(java.util.Collections.max(goods))};
        return what < 0 || what > 3 ? -1 : answers[what];
    }

    int both(int first, int second, int what) {
        if (!isPerson(first) || !isPerson(second) || first == second || what < 0 || what > 1) {
            return -1;
        }
        int need = 1 << first | 1 << second;
        int bits = firstHiring(false, b -> (new Trial(hiredWorld(b), 9999).goodBits() & need) == need);
        return bits == -1 || what == 1 ? bits : coin(bits);
    }

    private static int sum(List<Integer> bytes) {
        int c = 67;
        for (int b : bytes) {
            c = (5 * c + b) % 249;
        }
        return c;
    }

    int image() {
        List<Integer> bytes = new ArrayList<>(List.of(world.year / 256, world.year % 256));
        for (Person p : world.people) {
            bytes.addAll(List.of(p.age, p.born + 1, p.second == -1 ? 0 : p.second + 1, p.at, p.to, p.hired ? 1 : 0));
        }
        bytes.add(sum(bytes));
        written = bytes.stream().mapToInt(b -> b).toArray();
        return written.length;
    }

    int octet(int k) {
        return k >= 0 && k < written.length ? written[k] : -1;
    }

    boolean on() {
        List<Integer> bytes = new ArrayList<>();
        for (byte b : tape) {
            bytes.add(b & 255);
        }
        tape = new byte[0];
        if (bytes.size() != 3 + 6 * world.people.size()
            || sum(bytes.subList(0, bytes.size() - 1)) != bytes.get(bytes.size() - 1)) {
            return deny(5);
        }
        World w = world.copy();
        w.year = bytes.get(0) * 256 + bytes.get(1);
        if (w.year > 9999) {
            return deny(5);
        }
        for (int i = 0; i < w.people.size(); i++) {
            Person p = w.people.get(i);
            List<Integer> b = bytes.subList(2 + 6 * i, 8 + 6 * i);
            boolean fits = b.get(0) < 100 && isStation(b.get(1) - 1) && (b.get(2) == 0 || isStation(b.get(2) - 1))
                && b.get(1).intValue() != b.get(2).intValue() && isStation(b.get(3)) && isStation(b.get(4))
                && b.get(5) < 2 && (p.price > 0 || b.get(5) == 0);
            if (!fits) {
                return deny(5);
            }
            p.age = b.get(0);
            p.born = b.get(1) - 1;
            p.second = b.get(2) - 1;
            p.at = b.get(3);
            p.to = b.get(4);
            p.hired = b.get(5) == 1;
        }
        world = w;
        past.clear();
        return true;
    }

    int status(int what) {
        return what >= 0 && what < 6 ? refused[what] : -1;
    }
}
