import java.util.ArrayList;
import java.util.LinkedHashMap;
import java.util.List;
import java.util.Map;
import java.util.TreeMap;
import java.util.function.Predicate;
import java.util.function.ToLongFunction;

/**
 * A run of calls on one house. All that the house could answer behind them is asked of new houses that had the
 * same calls, as many as it needs, since none may have more than 512.
 */
final class Run {
    static final int MOST_CALLS = 512;
    private static final Map<String, ToLongFunction<TrackerHouse>> QUESTIONS = questions();

    private final TrackerHouse house = new TrackerHouse();
    private final List<ToLongFunction<TrackerHouse>> acts = new ArrayList<>();
    private int calls = 0;

    /** A run whose module the text tells. */
    static Run of(String text) {
        Run run = new Run();
        run.feed(Check.bytes(text));
        Check.due("read of \"" + text + "\"", run.read(false), 0);
        return run;
    }

    static Run of(byte[] container) {
        Run run = new Run();
        run.feed(container);
        Check.due("read of a container", run.read(true), 0);
        return run;
    }

    /** A run whose module the text tells, with some ticks made. */
    static Run played(String text, int ticks) {
        Run run = of(text);
        Check.due("ticks of \"" + text + "\"", run.play(ticks), ticks);
        return run;
    }

    static Run played(byte[] container, int ticks) {
        Run run = of(container);
        Check.due("ticks", run.play(ticks), ticks);
        return run;
    }

    int calls() {
        return calls;
    }

    /** A call that may change the house. */
    long act(ToLongFunction<TrackerHouse> call) {
        acts.add(call);
        return ask(call);
    }

    /** A call that changes nothing. */
    long ask(ToLongFunction<TrackerHouse> call) {
        calls++;
        if (calls > MOST_CALLS) {
            Check.wrong("a run has more calls than a house may have");
        }
        return call.applyAsLong(house);
    }

    boolean feed(int a, int b, int c, int d, int e) {
        return act(h -> h.feed(a, b, c, d, e) ? 1 : 0) == 1;
    }

    /** Bytes behind the tape, 20 a call; those of the last call that are too many are cut off again. */
    void feed(byte[] bytes) {
        long before = ask(h -> h.look(8));
        for (int i = 0; i < bytes.length; i += 20) {
            int[] n = new int[5];
            for (int j = 0; j < 20; j++) {
                n[j / 4] = n[j / 4] << 8 | (i + j < bytes.length ? bytes[i + j] & 255 : 0);
            }
            if (!feed(n[0], n[1], n[2], n[3], n[4])) {
                Check.wrong("a tape has no room for its bytes");
            }
        }
        if (bytes.length % 20 != 0) {
            end((int) before + bytes.length);
        }
    }

    boolean end(int n) {
        return act(h -> h.end(n) ? 1 : 0) == 1;
    }

    int read(boolean container) {
        return (int) act(h -> h.read(container));
    }

    boolean again() {
        return act(h -> h.again() ? 1 : 0) == 1;
    }

    int play(int n) {
        return (int) act(h -> Check.play(h, n));
    }

    boolean mute(int v, boolean on) {
        return act(h -> h.mute(v, on) ? 1 : 0) == 1;
    }

    int pack() {
        return (int) act(TrackerHouse::pack);
    }

    boolean take() {
        return act(h -> h.take() ? 1 : 0) == 1;
    }

    int look(int what) {
        return (int) ask(h -> h.look(what));
    }

    int voice(int v, int what) {
        return (int) ask(h -> h.voice(v, what));
    }

    int instrument(int k, int what) {
        return (int) ask(h -> h.instrument(k, what));
    }

    long cell(int k, int i) {
        return ask(h -> Check.cell(h, k, i));
    }

    int gate(int k, int i) {
        return (int) ask(h -> h.gate(k, i));
    }

    int swell(int k, int i) {
        return (int) ask(h -> h.swell(k, i));
    }

    int frame(int k) {
        return (int) ask(h -> h.frame(k));
    }

    int event(int k) {
        return (int) ask(h -> h.event(k));
    }

    int packed(int i) {
        return (int) ask(h -> h.packed(i));
    }

    // ---- many answers at once

    /** Place, row, tick, and whether the song is OVER. */
    void at(String what, int place, int row, int tick, int over) {
        Check.due(what + ": place", look(0), place);
        Check.due(what + ": row", look(1), row);
        Check.due(what + ": tick", look(2), tick);
        Check.due(what + ": over", look(4), over);
    }

    /** INSTRUMENT, POSITION, STEP, VOLUME, AGE, ON, MUTED of a voice, as many of them as are told. */
    void voiceIs(String what, int v, int... due) {
        for (int i = 0; i < due.length; i++) {
            Check.due(what + ": voice(" + v + ", " + i + ")", voice(v, i), due[i]);
        }
    }

    void cellsAre(String what, int k, long... due) {
        Check.due(what + ": cells of " + k, instrument(k, 1), due.length);
        for (int i = 0; i < due.length; i++) {
            Check.due(what + ": cell(" + k + ", " + i + ")", cell(k, i), due[i]);
        }
        Check.due(what + ": no cell behind the last one", cell(k, due.length), Check.NO_CELL);
    }

    void framesAre(String what, int from, int... due) {
        for (int i = 0; i < due.length; i++) {
            Check.due(what + ": frame(" + (from + i) + ")", frame(from + i), due[i]);
        }
    }

    /** All EVENTS since the beginning, and no more. */
    void eventsAre(String what, int... due) {
        Check.due(what + ": how many events", look(7), due.length);
        for (int i = 0; i < due.length; i++) {
            Check.due(what + ": event(" + i + ")", event(i), due[i]);
        }
        Check.due(what + ": no event behind the last one", event(due.length), -1);
    }

    // ---- the whole house

    /** A call that answers this, and changes nothing. */
    void changesNothing(String what, ToLongFunction<TrackerHouse> call, long due) {
        Map<String, Long> before = state();
        Check.due(what, act(call), due);
        same(what + " changes ", before, state(), name -> true);
    }

    /** The house is as another run left one, but for answers with these names. */
    void sameAs(String what, Run other, Predicate<String> but) {
        same(what + ": ", other.state(), state(), but.negate());
    }

    static boolean tellsEvents(String name) {
        return name.startsWith("event") || name.startsWith("look(5)") || name.startsWith("look(7)");
    }

    private static void same(String what, Map<String, Long> due, Map<String, Long> got, Predicate<String> counts) {
        for (Map.Entry<String, Long> answer : due.entrySet()) {
            String name = answer.getKey();
            if (counts.test(name)) {
                Check.due(what + name, got.get(name), answer.getValue());
            }
        }
    }

    /** Every answer now, and some that tell what the house would do next. */
    private Map<String, Long> state() {
        Map<String, Long> answers = new TreeMap<>();
        int room = MOST_CALLS - acts.size();
        TrackerHouse fresh = null;
        int left = 0;
        for (Map.Entry<String, ToLongFunction<TrackerHouse>> question : QUESTIONS.entrySet()) {
            if (left == 0) {
                fresh = replayed();
                left = room;
            }
            left--;
            answers.put(question.getKey(), question.getValue().applyAsLong(fresh));
        }
        next(answers, room, "play(64)", h -> Check.play(h, 64));
        next(answers, room, "read(false)", h -> h.read(false));
        next(answers, room, "read(true)", h -> h.read(true));
        next(answers, room, "take()", h -> h.take() ? 1 : 0);
        next(answers, room, "pack()", TrackerHouse::pack);
        return answers;
    }

    /** What a call would answer, and what it would leave. */
    private void next(Map<String, Long> answers, int room, String name, ToLongFunction<TrackerHouse> call) {
        TrackerHouse fresh = replayed();
        answers.put("then " + name, call.applyAsLong(fresh));
        int left = Math.min(room, 150) - 1;
        for (int i = 0; i < left; i++) {
            int n = i;
            String asked = i < 10 ? "look " + i : i < 38 ? "voice " + (i - 10) : "packed " + (i - 38);
            long answer = i < 10 ? fresh.look(n) : i < 38 ? fresh.voice((n - 10) / 7, (n - 10) % 7) : fresh.packed(n - 38);
            answers.put("then " + name + " " + asked, answer);
        }
    }

    private TrackerHouse replayed() {
        TrackerHouse fresh = new TrackerHouse();
        for (ToLongFunction<TrackerHouse> call : acts) {
            call.applyAsLong(fresh);
        }
        return fresh;
    }

    private static Map<String, ToLongFunction<TrackerHouse>> questions() {
        Map<String, ToLongFunction<TrackerHouse>> all = new LinkedHashMap<>();
        for (int n = 0; n < 10; n++) {
            int what = n;
            all.put("look(" + what + ")", h -> h.look(what));
        }
        for (int n = 0; n < 28; n++) {
            int v = n / 7;
            int what = n % 7;
            all.put("voice(" + v + ", " + what + ")", h -> h.voice(v, what));
        }
        for (int n = 0; n < 16; n++) {
            int k = n;
            for (int m = 0; m < 64; m++) {
                int i = m;
                all.put("cell(" + k + ", " + i + ")", h -> Check.cell(h, k, i));
                if (i < 7) {
                    all.put("instrument(" + k + ", " + i + ")", h -> h.instrument(k, i));
                }
                if (i < 16) {
                    all.put("swell(" + k + ", " + i + ")", h -> h.swell(k, i));
                }
                if (i < 32) {
                    all.put("gate(" + k + ", " + i + ")", h -> h.gate(k, i));
                }
            }
        }
        for (int n = 0; n < 300; n++) {
            int k = n;
            all.put("frame(" + k + ")", h -> h.frame(k));
            all.put("packed(" + k + ")", h -> h.packed(k));
            if (k < 100) {
                all.put("event(" + k + ")", h -> h.event(k));
            }
        }
        return all;
    }
}
