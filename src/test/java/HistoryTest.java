/** Promises 23 to 25: undo, the snapshot, and what is an act. */
public final class HistoryTest {
    private HistoryTest() {
    }

    public static void main(String[] args) {
        undo();
        undoOfEachAct();
        keep();
        restore();
        stateIsEverything();
        Check.end();
    }

    private static void undo() {
        MuseumNights x = new MuseumNights();
        for (int room = 1; room <= 6; room++) {
            x.addRoom(0, room);
            Check.due("23: at most 4", x.count(14), Math.min(room, 4));
        }
        for (int left = 3; left >= 0; left--) {
            Check.due("23: left", x.undo(), left);
            Check.due("23: rooms", x.count(2), 3 + left);
        }
        Check.due("23: empty", x.undo(), Check.NONE);
        Check.due("23: rooms stay", x.count(2), 3);
        x.addRoom(1, 9);
        x.addRoom(2, 9);
        x.undo();
        x.addRoom(3, 9);
        Check.due("23: a new way", x.room(4, 0), 3);
        Check.due("23: back", x.undo(), 1);
        Check.due("23: back", x.undo(), 0);
        Check.due("23: rooms", x.count(2), 3);
    }

    /** Each act records one state, which undo brings back; each error and NONE records nothing. */
    private static void undoOfEachAct() {
        MuseumNights x = new MuseumNights();
        act(x, "addRoom", x.addRoom(0, 3));
        act(x, "addRoom", x.addRoom(1, 0));
        act(x, "addDoor", x.addDoor(0, 1, 1, -1));
        act(x, "addDoor", x.addDoor(1, 2, 1, -1));
        act(x, "setBound", x.setBound(1, 2));
        act(x, "exclude", x.exclude(0, 1, true));
        act(x, "openZone", x.openZone(0));
        act(x, "closeZone", x.closeZone(0));
        act(x, "addGuard", x.addGuard());
        act(x, "addGuard", x.addGuard());
        act(x, "takeKey", x.takeKey(0, 0));
        act(x, "handKey", x.handKey(0, 1, 0));
        act(x, "bringKey", x.bringKey(1, 0));
        act(x, "go", x.go(0, 1, 0));
        act(x, "stop", x.stop(0));
        act(x, "go", x.go(0, 1, 0));
        act(x, "addWork", x.addWork(2, 1, 0));
        act(x, "pass", x.pass(3));
        act(x, "moveWork", x.moveWork(0, 2));
        act(x, "takeAway", x.takeAway(0));
        act(x, "clearAlarm", x.clearAlarm(0, 0));
        Check.typeAll(x, "0");
        act(x, "readOrders", x.readOrders(0));
        act(x, "nextNight", x.nextNight());
        x.keep();
        act(x, "restore", x.restore());
        noAct(x, "keep", x.keep());
        noAct(x, "type", x.type('1'));
        noAct(x, "clearText", x.clearText());
        noAct(x, "setBound NONE", x.setBound(1, 2));
        noAct(x, "exclude NONE", x.exclude(0, 1, true));
        noAct(x, "closeZone NONE", x.closeZone(0));
        noAct(x, "stop NONE", x.stop(0));
        noAct(x, "pass bad", x.pass(0));
        noAct(x, "alarmsIn", x.alarmsIn(60));
        noAct(x, "readOrders fault", x.readOrders(0));
        noAct(x, "addDoor there is one", x.addDoor(0, 1, 1, 1));
    }

    private static int states = 0;

    private static void act(MuseumNights x, String what, int answer) {
        states = Math.min(states + 1, 4);
        Check.holds("23: " + what + " is possible", answer >= 0);
        Check.due("23: states by " + what, x.count(14), states);
        // taken back and done again with the same answer: so it recorded the state right before it
        if (states == 4) {
            int left = x.undo();
            Check.due("23: undo of " + what, left, 3);
            states = 3;
            redo(x, what);
        }
    }

    private static void redo(MuseumNights x, String what) {
        switch (what) {
            case "addRoom": x.addRoom(1, 0); break;
            case "addDoor": x.addDoor(1, 2, 1, -1); break;
            case "setBound": Check.due("23: setBound again", x.setBound(1, 2), 3); break;
            case "exclude": Check.due("23: exclude again", x.exclude(0, 1, true), 1); break;
            case "openZone": Check.due("23: openZone again", x.openZone(0), 1); break;
            case "closeZone": Check.due("23: closeZone again", x.closeZone(0), 0); break;
            case "addGuard": x.addGuard(); break;
            case "takeKey": Check.due("23: takeKey again", x.takeKey(0, 0), 1); break;
            case "handKey": Check.due("23: handKey again", x.handKey(0, 1, 0), 1); break;
            case "bringKey": Check.due("23: bringKey again", x.bringKey(1, 0), 0); break;
            case "go": Check.due("23: go again", x.go(0, 1, 0), 1); break;
            case "stop": Check.due("23: stop again", x.stop(0), 1); break;
            case "addWork": Check.due("23: addWork again", x.addWork(2, 1, 0), 0); break;
            case "pass": Check.due("23: pass again", x.pass(3), 2); break;
            case "moveWork": Check.due("23: moveWork again", x.moveWork(0, 2), 1); break;
            case "takeAway": Check.due("23: takeAway again", x.takeAway(0), 0); break;
            case "clearAlarm": Check.due("23: clearAlarm again", x.clearAlarm(0, 0), 3); break;
            case "readOrders": Check.due("23: readOrders again", x.readOrders(0), 1); break;
            case "nextNight": Check.due("23: nextNight again", x.nextNight(), 1); break;
            case "restore": Check.due("23: restore again", x.restore(), 0); break;
            default: Check.holds("23: " + what + " is known", false);
        }
        states = 4;
        Check.due("23: states by " + what + " again", x.count(14), 4);
    }

    private static void noAct(MuseumNights x, String what, int answer) {
        Check.due("23: " + what + " (" + answer + ") is no act", x.count(14), states);
    }

    private static void keep() {
        MuseumNights x = new MuseumNights();
        Check.due("24: minute 0", x.keep(), 0);
        x.pass(17);
        Check.due("24: minute 17", x.keep(), 17);
        Check.due("24: no act", x.count(14), 1);
        x.undo();
        Check.due("24: undo leaves the snapshot", x.restore(), 17);
        x.pass(5);
        Check.due("24: in place of the one that was", x.keep(), 22);
        x.undo();
        Check.due("24: the latest one", x.restore(), 22);
    }

    private static void restore() {
        MuseumNights x = new MuseumNights();
        Check.due("25: none", x.restore(), Check.NONE);
        Check.due("25: none is no act", x.count(14), 0);
        x.addRoom(0, 5);
        x.keep();
        x.addRoom(1, 5);
        x.pass(9);
        Check.typeAll(x, "12");
        Check.due("25: restored", x.restore(), 0);
        Check.due("25: rooms", x.count(2), 2);
        Check.due("25: is an act", x.count(14), 4);
        Check.due("25: leaves the text", x.count(15), 2);
        Check.due("25: undo brings back", x.undo(), 3);
        Check.due("25: the minute", x.count(0), 9);
        Check.due("25: the snapshot stays", x.restore(), 0);
        x.pass(1);
        Check.due("25: it is not changed by what follows", x.restore(), 0);
        Check.due("25: alarms of the snapshot", x.count(7), 0);
    }

    /** A full night is taken back and brought back, with all that is told of it. */
    private static void stateIsEverything() {
        MuseumNights x = new MuseumNights();
        x.addRoom(0, 2);
        x.addDoor(0, 1, 1, -1);
        x.addGuard();
        x.addWork(2, 1, 0);
        x.keep();
        x.exclude(0, 1, true);
        x.openZone(0);
        x.takeKey(0, 4);
        x.go(0, 1, 3);
        x.pass(5);
        x.clearAlarm(0, 0);
        x.takeAway(0);
        long busy = sum(x);
        x.restore();
        Check.due("25: exclusions", x.zone(0, 1), 0);
        Check.due("25: open zones", x.count(10), 0);
        Check.due("25: keys", x.holder(4), Check.NONE);
        Check.due("25: orders", x.guard(0, 4), 0);
        Check.due("25: uses", x.door(0, 4), 0);
        Check.due("25: stays", x.count(12), 0);
        Check.due("25: arrivals", x.guard(0, 7), 0);
        Check.due("25: work", x.work(0, 3), 0);
        Check.due("25: watched minutes", x.room(1, 5), 0);
        x.undo();
        Check.due("23: all is there again", sum(x), busy);
        Check.due("23: the watched minutes, too", x.gap(1, 0, 5), 1);
    }

    private static long sum(MuseumNights x) {
        long sum = 0;
        for (int what = 0; what <= 13; what++) {
            sum = 31 * sum + x.count(what);
        }
        for (int what = 0; what <= 8; what++) {
            sum = 31 * sum + x.room(1, what);
            sum = 31 * sum + x.door(0, Math.min(what, 4));
            sum = 31 * sum + x.zone(0, Math.min(what, 4));
            sum = 31 * sum + x.guard(0, Math.min(what, 7));
            sum = 31 * sum + x.work(0, Math.min(what, 4));
            sum = 31 * sum + x.alarm(0, Math.min(what, 4));
            sum = 31 * sum + x.stay(0, Math.min(what, 3));
            sum = 31 * sum + x.holder(Math.min(what, 7));
        }
        return sum;
    }
}
