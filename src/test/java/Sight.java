import java.util.LinkedHashMap;
import java.util.List;
import java.util.Map;
import java.util.function.Function;

/**
 * All that can be asked of an object, by the calls that ask it. What is seen of its past and of its tape changes it,
 * so each kind of sight is taken of an object of its own, which also stays below 512 calls.
 */
final class Sight {
    static final List<Function<BornAboard, Map<String, Integer>>> ALL = List.of(Sight::present, Sight::past, Sight::tape);
    private final BornAboard x;
    private final Map<String, Integer> seen = new LinkedHashMap<>();

    private Sight(BornAboard x) {
        this.x = x;
    }

    private void see(String call, int answer) {
        seen.put(call, answer);
    }

    private static Map<String, Integer> present(BornAboard x) {
        Sight sight = new Sight(x);
        sight.seeCounts();
        sight.seePlaces();
        sight.seePeople("");
        int octet = 0;
        for (int k = 0; octet != BornAboard.NONE; k++) {
            octet = x.octet(k);
            sight.see("octet(" + k + ")", octet);
        }
        return sight.seen;
    }

    private void seeCounts() {
        for (int what = 0; what < 2; what++) {
            see("fault(" + what + ")", x.fault(what));
        }
        for (int what = 0; what < 6; what++) {
            see("status(" + what + ")", x.status(what));
        }
        for (int what = 0; what < 11; what++) {
            see("has(" + what + ")", x.has(what));
        }
    }

    private void seePlaces() {
        for (int s = 0; s < x.has(0); s++) {
            see("letter(0, " + s + ", 0)", x.letter(0, s, 0));
            for (int what = 0; what < 4; what++) {
                see("station(" + s + ", " + what + ")", x.station(s, what));
            }
        }
        for (int t = 0; t < x.has(1); t++) {
            see("letter(1, " + t + ", 0)", x.letter(1, t, 0));
            for (int what : new int[] {0, 1, 2, 10, 11, 12, 21, 22}) {
                see("train(" + t + ", " + what + ")", x.train(t, what));
            }
        }
    }

    private void seePeople(String when) {
        for (int p = 0; p < x.has(2); p++) {
            for (int what = 0; what < 7; what++) {
                see(when + "person(" + p + ", " + what + ")", x.person(p, what));
            }
        }
    }

    private static Map<String, Integer> past(BornAboard x) {
        Sight sight = new Sight(x);
        boolean undone = true;
        for (int n = 1; undone; n++) {
            undone = x.undo();
            String when = "behind undo " + n + " ";
            sight.see(when + "true", undone ? 1 : 0);
            sight.see(when + "has(6)", x.has(6));
            sight.seePeople(when);
        }
        return sight.seen;
    }

    /** What stands on the tape is seen as a line, with "t;stop 9;" behind it. */
    private static Map<String, Integer> tape(BornAboard x) {
        Sight sight = new Sight(x);
        int[] more = Check.packed("t;stop 9;".chars().toArray(), 0);
        sight.see("feed()", x.feed(more[0], more[1], more[2], more[3], more[4]));
        sight.see("line()", x.line());
        sight.see("fault(0) of it", x.fault(0));
        sight.see("fault(1) of it", x.fault(1));
        sight.see("has(5) of it", x.has(5));
        for (int s = 0; s < x.has(0); s++) {
            for (int k = 0; k < 6; k++) {
                sight.see("letter(0, " + s + ", " + k + ") of it", x.letter(0, s, k));
            }
        }
        return sight.seen;
    }
}
