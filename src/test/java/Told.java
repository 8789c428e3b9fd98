import java.util.ArrayList;
import java.util.List;

/**
 * All that a museum tells. No object is asked more than 512 calls may ask: the questions are put in
 * parts, each of them to a museum that is made anew by the same acts.
 */
final class Told {
    private static final int PART = 150;
    private static final int LONGEST_LOOK_BACK = 12;

    private static final List<String> NAMES = new ArrayList<>();
    private static final List<Call> QUESTIONS = new ArrayList<>();
    /** How many of the questions are about the state: the others are about the history and the text. */
    private static final int ABOUT_STATE;

    static {
        askLists();
        askMinutes();
        ABOUT_STATE = QUESTIONS.size();
        add("count(14)", x -> x.count(14));
        add("count(15)", x -> x.count(15));
    }

    private Told() {
    }

    private interface Question {
        int of(MuseumNights x, int number, int what);
    }

    private static void add(String name, Call question) {
        NAMES.add(name);
        QUESTIONS.add(question);
    }

    private static void addAll(String name, int numbers, int whats, Question question) {
        for (int number = 0; number < numbers; number++) {
            for (int what = 0; what < whats; what++) {
                int n = number;
                int w = what;
                add(name + "(" + n + ", " + w + ")", x -> question.of(x, n, w));
            }
        }
    }

    private static void askLists() {
        addAll("count of", 1, 14, (x, none, what) -> x.count(what));
        addAll("room", 12, 9, MuseumNights::room);
        addAll("door", 20, 5, MuseumNights::door);
        addAll("zone", 6, 5, MuseumNights::zone);
        addAll("guard", 4, 8, MuseumNights::guard);
        addAll("orderAt", 4, 12, MuseumNights::orderAt);
        addAll("holder", 8, 1, (x, key, none) -> x.holder(key));
        addAll("work", 10, 5, MuseumNights::work);
        addAll("alarm", 40, 5, MuseumNights::alarm);
        addAll("stay", LONGEST_LOOK_BACK, 4, MuseumNights::stay);
        addAll("way", 4, 12, MuseumNights::way);
    }

    private static void askMinutes() {
        addAll("first half: gap", 12, 1, (x, room, none) -> x.gap(room, 0, x.count(0) / 2));
        addAll("second half: gap", 12, 1, (x, room, none) -> x.gap(room, x.count(0) / 2, x.count(0)));
        addAll("last minute: gap", 12, 1, (x, room, none) -> x.gap(room, x.count(0) - 1, x.count(0)));
        add("firstDue()", MuseumNights::firstDue);
        add("alarmsIn(1)", x -> x.alarmsIn(1));
        add("alarmsIn(20)", x -> x.alarmsIn(20));
    }

    private static int[] answers(Acts made, int questions) {
        int[] answers = new int[questions];
        for (int first = 0; first < questions; first += PART) {
            MuseumNights x = new MuseumNights();
            made.on(x);
            for (int i = first; i < questions && i < first + PART; i++) {
                answers[i] = QUESTIONS.get(i).on(x);
            }
        }
        return answers;
    }

    /** Both museums tell the same state; their histories and texts may differ. */
    static void sameState(String what, Acts got, Acts want) {
        same(what, got, want, ABOUT_STATE);
    }

    /** Both museums tell the same state, and as many states in the history and signs in the text. */
    static void same(String what, Acts got, Acts want) {
        same(what, got, want, QUESTIONS.size());
    }

    private static void same(String what, Acts got, Acts want, int questions) {
        int[] told = answers(got, questions);
        int[] due = answers(want, questions);
        for (int i = 0; i < questions; i++) {
            Check.due(what + ": " + NAMES.get(i), told[i], due[i]);
        }
    }
}
