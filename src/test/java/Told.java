import java.util.Arrays;

/** All that a museum tells of its state: not the text, the history and the snapshot. */
final class Told {
    private int[] answers = new int[64];
    private int size = 0;

    private Told() {
    }

    static int[] all(MuseumNights x) {
        Told told = new Told();
        told.ask(x);
        return Arrays.copyOf(told.answers, told.size);
    }

    static void same(String what, MuseumNights x, int[] want) {
        Check.holds(what, Arrays.equals(all(x), want));
    }

    private void add(int answer) {
        if (size == answers.length) {
            answers = Arrays.copyOf(answers, 2 * size);
        }
        answers[size] = answer;
        size++;
    }

    private void ask(MuseumNights x) {
        for (int what = 0; what <= 13; what++) {
            add(x.count(what));
        }
        for (int what = 0; what <= 8; what++) {
            for (int number = 0; number < 40; number++) {
                add(x.room(number, what));
                add(x.door(number, what));
                add(x.zone(number, what));
                add(x.guard(number, what));
                add(x.work(number, what));
                add(x.alarm(number, what));
                add(x.orderAt(what, number));
                add(x.holder(number));
            }
        }
        for (int back = 0; back < x.count(12); back++) {
            for (int what = 0; what <= 3; what++) {
                add(x.stay(back, what));
            }
        }
        for (int room = 0; room < x.count(2); room++) {
            for (int minute = 0; minute < x.count(0); minute++) {
                add(x.gap(room, minute, minute + 1));
            }
            for (int guard = 0; guard < x.count(4); guard++) {
                add(x.way(guard, room));
            }
        }
        add(x.firstDue());
        add(x.alarmsIn(1));
        add(x.alarmsIn(30));
    }
}
