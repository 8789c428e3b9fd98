/**
 * Tests of single sentences of the document. Each test is told by the number of its promise, the
 * sentence, and its own name, and begins with a museum that is made anew.
 */
abstract class Edges {
    static final int UNKNOWN = Check.UNKNOWN;
    static final int BAD_VALUE = Check.BAD_VALUE;
    static final int FULL = Check.FULL;
    static final int NOT_POSSIBLE = Check.NOT_POSSIBLE;
    static final int NONE = Check.NONE;
    static final int LEAST = Integer.MIN_VALUE;
    static final int GREATEST = Integer.MAX_VALUE;
    /** The number for what the document says outside of its promises. */
    static final int TERMS = 0;

    /** Outside of ranges: where bits of them are lost each is a small number again, and some stand for none. */
    private static final int[] FAR = {
        LEAST, LEAST + 1, -65536, -256, -32, -9, NONE - 1, NONE, NOT_POSSIBLE, FULL, BAD_VALUE, -1,
        32, 33, 256, 257, 65536, 65537, 1 << 30, GREATEST
    };
    private static final int HISTORY_LIMIT = 4;

    private int promise;
    private String sentence;

    interface CallWith {
        int on(MuseumNights x, int value);
    }

    abstract void run();

    final void promise(int number) {
        promise = number;
    }

    /** The words of the document that the tests behind this call are about. */
    final void says(String words) {
        sentence = words;
        Sentences.quote(promise, words);
    }

    private String begin(String test) {
        Sentences.countTest(promise);
        return (promise == TERMS ? "terms" : "promise " + promise) + ", \"" + sentence + "\", " + test;
    }

    private static MuseumNights made(Acts before) {
        MuseumNights x = new MuseumNights();
        before.on(x);
        return x;
    }

    /** The answer alone: for calls behind which the text or the snapshot is another one. */
    final void answer(String test, Acts before, Call call, int want) {
        Check.due(begin(test), call.on(made(before)), want);
    }

    /** Both museums tell the same state; their histories, snapshots and texts may differ. */
    final void sameState(String test, Acts got, Acts want) {
        Told.sameState(begin(test), got, want);
    }

    /** The answer of an act, which records the state that was before it and leaves text and snapshot. */
    final void act(String test, Acts before, Call call, int want) {
        String name = begin(test);
        MuseumNights x = made(before);
        int states = x.count(14);
        int statesThen = Math.min(states + 1, HISTORY_LIMIT);
        int signs = x.count(15);
        Check.due(name, call.on(x), want);
        Check.due(name + ": states then", x.count(14), statesThen);
        Check.due(name + ": signs of the text then", x.count(15), signs);
        Check.due(name + ": undo", x.undo(), statesThen - 1);
        Acts then = before.then(y -> call.on(y));
        for (int back = 0; back < statesThen; back++) {
            Acts undone = then.then(Museums.undo(back + 1));
            Told.sameState(name + ": " + back + " states back", undone, before.then(Museums.undo(back)));
        }
        sameSnapshotAndText(name, then.then(Museums.undo(1)), before);
    }

    private static void sameSnapshotAndText(String name, Acts got, Acts want) {
        Check.due(name + ": restore", made(got).restore(), made(want).restore());
        if (made(want).restore() != NONE) {
            Acts restored = MuseumNights::restore;
            Told.sameState(name + ": snapshot", got.then(restored), want.then(restored));
        }
        // new museums of their own, so that nothing but the text has a part in what is read
        MuseumNights x = made(got);
        MuseumNights y = made(want);
        x.addGuard();
        y.addGuard();
        x.stop(0);
        y.stop(0);
        Check.due(name + ": text", Math.min(x.readOrders(0), 0), Math.min(y.readOrders(0), 0));
        Check.due(name + ": first order of the text", x.orderAt(0, 0), y.orderAt(0, 0));
        Check.due(name + ": length of the text", x.clearText(), y.clearText());
    }

    /** The answer of a question, behind which nothing is another thing than before. */
    final void tell(String test, Acts before, Call call, int want) {
        unchanged(begin(test), before, call, want);
    }

    /** An error or NONE, behind which nothing is another thing than before. */
    final void refuse(String test, Acts before, Call call, int want) {
        String name = begin(test);
        Check.holds(name + ": is refused", want < 0);
        unchanged(name, before, call, want);
    }

    private void unchanged(String name, Acts before, Call call, int want) {
        MuseumNights x = made(before);
        Check.due(name, call.on(x), want);
        Acts then = before.then(y -> call.on(y));
        Told.same(name + ": nothing changed", then, before);
        int states = made(before).count(14);
        for (int back = 1; back <= states; back++) {
            Acts undo = Museums.undo(back);
            Told.same(name + ": history, " + back + " back", then.then(undo), before.then(undo));
        }
        Acts later = y -> y.pass(11);
        Told.same(name + ": and later", then.then(later), before.then(later));
        sameSnapshotAndText(name, then, before);
    }

    /** Questions by 0, 1, 2 and so on, each with its answer. */
    final void tellRow(String test, Acts before, CallWith call, int... wants) {
        for (int value = 0; value < wants.length; value++) {
            int what = value;
            Check.due(begin(test + " " + what), call.on(made(before), what), wants[what]);
        }
    }

    /** Just outside of a range on both sides, and far from it. */
    final void refuseOutside(String test, int least, int greatest, Acts before, CallWith call, int error) {
        refuse(test + " " + (least - 1), before, x -> call.on(x, least - 1), error);
        refuse(test + " " + (greatest + 1), before, x -> call.on(x, greatest + 1), error);
        for (int value : FAR) {
            if (value < least - 1 || value > greatest + 1) {
                Check.due(begin(test + " " + value), call.on(made(before), value), error);
            }
        }
    }
}
