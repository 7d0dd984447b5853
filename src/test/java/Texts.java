import java.util.ArrayList;
import java.util.Collections;
import java.util.List;
import java.util.Random;

/** Texts of lines for the tests that compare: sound ones, and such with something spoilt. */
final class Texts {
    private static final String[] WORDS = {"station", "stop", "train", "from", "seats", "calls", "after", "person",
        "age", "born", "at", "to", "price", ";", "0", "5", "99", "100", "1440", "12345", "abcdefg", "stationx", "zz"};
    private final Random random;

    Texts(Random random) {
        this.random = random;
    }

    private String name(String lead, int k) {
        return lead + (char) ('a' + k) + "xyzw".substring(0, k % 5);
    }

    /** A sound line with at most so many people. */
    String sound(int people) {
        List<String> parts = new ArrayList<>();
        int stations = 2 + random.nextInt(random.nextInt(3) == 0 ? 13 : 6);
        for (int s = 0; s < stations; s++) {
            parts.add("station " + name("s", s));
        }
        if (random.nextInt(3) > 0) {
            parts.add("stop " + (1 + random.nextInt(random.nextBoolean() ? 6 : 30)));
        }
        int trains = random.nextInt(7);
        int spread = 1 + random.nextInt(random.nextBoolean() ? 30 : 1439);
        for (int t = 0; t < trains; t++) {
            parts.add(train(t, stations, spread));
        }
        int count = random.nextInt(people + 1);
        for (int p = 0; p < count; p++) {
            parts.add(person(p, stations));
        }
        StringBuilder text = new StringBuilder();
        for (String part : parts) {
            text.append(part).append(random.nextInt(8) == 0 ? " ;\n" : ";");
        }
        return text.toString();
    }

    private String train(int t, int stations, int spread) {
        List<Integer> order = new ArrayList<>();
        for (int s = 0; s < stations; s++) {
            order.add(s);
        }
        if (random.nextInt(3) > 0) {
            Collections.shuffle(order, random);
        } else if (random.nextBoolean()) {
            Collections.reverse(order);
        }
        int calls = Math.min(stations, 2 + random.nextInt(7));
        StringBuilder text = new StringBuilder("train " + name("t", t) + " from " + random.nextInt(spread) + " seats "
            + (1 + random.nextInt(random.nextBoolean() ? 3 : 12)) + " calls " + name("s", order.get(0)));
        for (int k = 1; k < calls; k++) {
            text.append(" after ").append(1 + random.nextInt(random.nextBoolean() ? 10 : 99)).append(' ')
                .append(name("s", order.get(k)));
        }
        return text.toString();
    }

    private String person(int p, int stations) {
        int born = random.nextInt(stations);
        int second = random.nextInt(stations);
        boolean two = born != second && random.nextInt(3) == 0;
        int price = random.nextInt(4) == 0 ? 0 : random.nextInt(random.nextBoolean() ? 5 : 100);
        return "person " + name("p", p) + " age " + random.nextInt(100) + " born " + name("s", born)
            + (two ? " " + name("s", second) : "") + " at " + name("s", random.nextInt(stations)) + " to "
            + name("s", random.nextInt(stations)) + " price " + price;
    }

    /** Some ninety statements, and what may stand behind them. */
    String ninety() {
        StringBuilder text = new StringBuilder("station a;");
        for (int n = 88 + random.nextInt(3); n > 1; n--) {
            text.append("stop ").append(1 + random.nextInt(9)).append(random.nextInt(30) == 0 ? " ; " : ";");
        }
        for (int n = random.nextInt(4); n > 0; n--) {
            text.append(random.nextBoolean() ? "stop 5;" : WORDS[random.nextInt(WORDS.length)]);
            text.append(random.nextBoolean() ? " " : "");
        }
        return text.toString();
    }

    /** A text with one thing or two spoilt: a byte, a word, or its end. */
    String spoilt(String text) {
        String spoilt = text;
        for (int n = random.nextInt(2); n >= 0; n--) {
            spoilt = spoilOnce(spoilt);
        }
        return spoilt;
    }

    private String spoilOnce(String text) {
        if (text.isEmpty()) {
            return ";";
        }
        int at = random.nextInt(text.length());
        switch (random.nextInt(8)) {
            case 0:
                return text.substring(0, at);
            case 1:
                return text.substring(0, at) + text.substring(at + 1);
            case 2:
                return text.substring(0, at) + (char) random.nextInt(256) + text.substring(at);
            case 3:
                return text.substring(0, at) + "az09; \n".charAt(random.nextInt(7)) + text.substring(at);
            case 4:
                return text.substring(0, at) + text.substring(random.nextInt(text.length()));
            case 5:
                return text.substring(0, at) + WORDS[random.nextInt(WORDS.length)] + text.substring(at);
            default:
                return otherWord(text);
        }
    }

    private String otherWord(String text) {
        String[] words = text.split("(?<=[ ;\n])|(?=[ ;\n])");
        int at = random.nextInt(words.length);
        String other = random.nextBoolean() ? words[random.nextInt(words.length)] : WORDS[random.nextInt(WORDS.length)];
        words[at] = random.nextBoolean() ? other : words[at] + " " + other;
        return String.join("", words);
    }
}
