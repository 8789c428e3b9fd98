/** Promises 23 to 25: undo, the snapshot, and what is an act. */
public final class HistoryTest {
    private HistoryTest() {
    }

    public static void main(String[] args) {
        undo();
        undoOfEachAct();
        keep();
        restore();
        stateIsEverything();
        nothingIsLeftBehind();
        staysThatGoOn();
        Check.end();
    }

    private static void undo() {
        MuseumNights x = new MuseumNights();
        for (int room = 1; room <= 6; room++) {
            x.addRoom(0, room);
            Check.due("23: at most 4", x.count(14), Math.min(room, 4));
        }
        for (int left = 3; left >= 0; left--) {
            Check.due("23: left", x.undo(), left);
            Check.due("23: rooms", x.count(2), 3 + left);
        }
        Check.due("23: empty", x.undo(), Check.NONE);
        Check.due("23: rooms stay", x.count(2), 3);
        x.addRoom(1, 9);
        x.addRoom(2, 9);
        x.undo();
        x.addRoom(3, 9);
        Check.due("23: a new way", x.room(4, 0), 3);
        Check.due("23: back", x.undo(), 1);
        Check.due("23: back", x.undo(), 0);
        Check.due("23: rooms", x.count(2), 3);
    }

    /** Each act records one state, which undo brings back; each error and NONE records nothing. */
    private static void undoOfEachAct() {
        MuseumNights x = new MuseumNights();
        act(x, "addRoom", x.addRoom(0, 3));
        act(x, "addRoom", x.addRoom(1, 0));
        act(x, "addDoor", x.addDoor(0, 1, 1, -1));
        act(x, "addDoor", x.addDoor(1, 2, 1, -1));
        act(x, "setBound", x.setBound(1, 2));
        act(x, "exclude", x.exclude(0, 1, true));
        act(x, "openZone", x.openZone(0));
        act(x, "closeZone", x.closeZone(0));
        act(x, "addGuard", x.addGuard());
        act(x, "addGuard", x.addGuard());
        act(x, "takeKey", x.takeKey(0, 0));
        act(x, "handKey", x.handKey(0, 1, 0));
        act(x, "bringKey", x.bringKey(1, 0));
        act(x, "go", x.go(0, 1, 0));
        act(x, "stop", x.stop(0));
        act(x, "go", x.go(0, 1, 0));
        act(x, "addWork", x.addWork(2, 1, 0));
        act(x, "pass", x.pass(3));
        act(x, "moveWork", x.moveWork(0, 2));
        act(x, "takeAway", x.takeAway(0));
        act(x, "clearAlarm", x.clearAlarm(0, 0));
        Check.typeAll(x, "0");
        act(x, "readOrders", x.readOrders(0));
        act(x, "nextNight", x.nextNight());
        x.keep();
        act(x, "restore", x.restore());
        noAct(x, "keep", x.keep());
        noAct(x, "type", x.type('1'));
        noAct(x, "clearText", x.clearText());
        noAct(x, "setBound NONE", x.setBound(1, 2));
        noAct(x, "exclude NONE", x.exclude(0, 1, true));
        noAct(x, "closeZone NONE", x.closeZone(0));
        noAct(x, "stop NONE", x.stop(0));
        noAct(x, "pass bad", x.pass(0));
        noAct(x, "alarmsIn", x.alarmsIn(60));
        noAct(x, "readOrders fault", x.readOrders(0));
        noAct(x, "addDoor there is one", x.addDoor(0, 1, 1, 1));
    }

    private static int states = 0;

    private static void act(MuseumNights x, String what, int answer) {
        states = Math.min(states + 1, 4);
        Check.holds("23: " + what + " is possible", answer >= 0);
        Check.due("23: states by " + what, x.count(14), states);
        // taken back and done again with the same answer: so it recorded the state right before it
        if (states == 4) {
            int left = x.undo();
            Check.due("23: undo of " + what, left, 3);
            states = 3;
            redo(x, what);
        }
    }

    private static void redo(MuseumNights x, String what) {
        switch (what) {
            case "addRoom": x.addRoom(1, 0); break;
            case "addDoor": x.addDoor(1, 2, 1, -1); break;
            case "setBound": Check.due("23: setBound again", x.setBound(1, 2), 3); break;
            case "exclude": Check.due("23: exclude again", x.exclude(0, 1, true), 1); break;
            case "openZone": Check.due("23: openZone again", x.openZone(0), 1); break;
            case "closeZone": Check.due("23: closeZone again", x.closeZone(0), 0); break;
            case "addGuard": x.addGuard(); break;
            case "takeKey": Check.due("23: takeKey again", x.takeKey(0, 0), 1); break;
            case "handKey": Check.due("23: handKey again", x.handKey(0, 1, 0), 1); break;
            case "bringKey": Check.due("23: bringKey again", x.bringKey(1, 0), 0); break;
            case "go": Check.due("23: go again", x.go(0, 1, 0), 1); break;
            case "stop": Check.due("23: stop again", x.stop(0), 1); break;
            case "addWork": Check.due("23: addWork again", x.addWork(2, 1, 0), 0); break;
            case "pass": Check.due("23: pass again", x.pass(3), 2); break;
            case "moveWork": Check.due("23: moveWork again", x.moveWork(0, 2), 1); break;
            case "takeAway": Check.due("23: takeAway again", x.takeAway(0), 0); break;
            case "clearAlarm": Check.due("23: clearAlarm again", x.clearAlarm(0, 0), 3); break;
            case "readOrders": Check.due("23: readOrders again", x.readOrders(0), 1); break;
            case "nextNight": Check.due("23: nextNight again", x.nextNight(), 1); break;
            case "restore": Check.due("23: restore again", x.restore(), 0); break;
            default: Check.holds("23: " + what + " is known", false);
        }
        states = 4;
        Check.due("23: states by " + what + " again", x.count(14), 4);
    }

    private static void noAct(MuseumNights x, String what, int answer) {
        Check.due("23: " + what + " (" + answer + ") is no act", x.count(14), states);
    }

    private static void keep() {
        MuseumNights x = new MuseumNights();
        Check.due("24: minute 0", x.keep(), 0);
        x.pass(17);
        Check.due("24: minute 17", x.keep(), 17);
        Check.due("24: no act", x.count(14), 1);
        x.undo();
        Check.due("24: undo leaves the snapshot", x.restore(), 17);
        x.pass(5);
        Check.due("24: in place of the one that was", x.keep(), 22);
        x.undo();
        Check.due("24: the latest one", x.restore(), 22);
    }

    private static void restore() {
        MuseumNights x = new MuseumNights();
        Check.due("25: none", x.restore(), Check.NONE);
        Check.due("25: none is no act", x.count(14), 0);
        x.addRoom(0, 5);
        x.keep();
        x.addRoom(1, 5);
        x.pass(9);
        Check.typeAll(x, "12");
        Check.due("25: restored", x.restore(), 0);
        Check.due("25: rooms", x.count(2), 2);
        Check.due("25: is an act", x.count(14), 4);
        Check.due("25: leaves the text", x.count(15), 2);
        Check.due("25: undo brings back", x.undo(), 3);
        Check.due("25: the minute", x.count(0), 9);
        Check.due("25: the snapshot stays", x.restore(), 0);
        x.pass(1);
        Check.due("25: it is not changed by what follows", x.restore(), 0);
        Check.due("25: alarms of the snapshot", x.count(7), 0);
    }

    /** Goes one way, keeps it, goes back and another way: the snapshot and undo know both of them. */
    private static void twoWays(String name, Acts base, Acts one, int actsOfOne, Acts other) {
        Acts atOne = base.then(one);
        Acts kept = atOne.then(MuseumNights::keep);
        Told.sameState("24: keep changes nothing of " + name, kept, atOne);
        Acts back = kept.then(x -> {
            for (int act = 0; act < actsOfOne; act++) {
                x.undo();
            }
        });
        Told.sameState("23: undo of " + name, back, base);
        Acts restored = back.then(other).then(MuseumNights::restore);
        Told.sameState("25: restore of " + name, restored, atOne);
        Acts undone = restored.then(MuseumNights::undo);
        Told.sameState("23: undo of restore of " + name, undone, base.then(other));
        Told.sameState("25: restore of " + name + " again", undone.then(MuseumNights::restore), atOne);
    }

    private static void stateIsEverything() {
        Acts none = x -> { };
        twoWays("the house", none,
            x -> { x.addRoom(2, 7); x.addDoor(0, 1, 2, 3); x.exclude(0, 1, true); x.openZone(0); }, 4,
            x -> { x.addRoom(4, 9); x.addDoor(1, 0, 5, -1); x.exclude(2, 3, true); x.openZone(2); });
        twoWays("walking guards", HistoryTest::furnish,
            x -> { x.go(0, 1, 5); x.go(0, 2, 6); x.go(1, 2, 7); x.pass(1); }, 4,
            x -> { x.go(0, 1, 0); x.go(1, 1, 9); x.pass(2); });
        twoWays("standing guards", HistoryTest::furnish,
            x -> { x.go(0, 1, 9); x.go(1, 1, 8); x.pass(2); x.pass(4); }, 4,
            x -> { x.pass(3); x.go(0, 1, 1); x.go(0, 0, 1); x.pass(9); });
        twoWays("halts", HistoryTest::furnish,
            x -> { x.go(0, 0, 5); x.go(1, 0, 6); x.pass(1); }, 3,
            x -> { x.go(1, 1, 9); x.pass(2); x.stop(1); });
        twoWays("keys", HistoryTest::furnish,
            x -> { x.takeKey(0, 1); x.takeKey(0, 3); x.takeKey(1, 2); }, 3,
            x -> { x.takeKey(1, 1); x.takeKey(1, 3); x.go(1, 1, 0); x.pass(2); });
        twoWays("works", HistoryTest::furnish,
            x -> { x.addWork(2, 1, 2); x.addWork(1, 2, 9); x.takeAway(1); x.pass(4); }, 4,
            x -> { x.addWork(0, 2, 8); x.addWork(2, 2, 0); x.pass(7); x.addWork(1, 1, 3); });
        twoWays("alarms", HistoryTest::furnish,
            x -> { x.go(0, 1, 0); x.pass(3); x.clearAlarm(0, 0); x.pass(3); }, 4,
            x -> { x.setBound(2, 5); x.addWork(2, 2, 0); x.pass(9); });
        twoWays("lost alarms", HistoryTest::furnishWorks,
            x -> { x.pass(30); x.pass(10); }, 2,
            x -> { x.go(0, 1, 1); x.pass(60); });
        twoWays("nights", HistoryTest::furnish,
            x -> { x.pass(30); x.nextNight(); x.go(0, 1, 3); x.pass(20); }, 4,
            x -> { x.go(0, 1, 3); x.pass(20); x.nextNight(); x.nextNight(); });
    }

    private static void furnish(MuseumNights x) {
        x.addRoom(0, 3);
        x.addRoom(1, 0);
        x.addDoor(0, 1, 2, -1);
        x.addDoor(1, 2, 3, 3);
        x.addGuard();
        x.addGuard();
    }

    /** Each time the guard comes and goes, ten works are troubled. */
    private static void furnishWorks(MuseumNights x) {
        furnish(x);
        for (int work = 0; work < 10; work++) {
            x.addWork(1, 1, 0);
        }
        for (int turn = 0; turn < 6; turn++) {
            x.go(0, 1, 1);
            x.go(0, 0, 1);
        }
    }

    /** What undo and restore take away leaves nothing behind for what comes next under its number. */
    private static void nothingIsLeftBehind() {
        MuseumNights x = new MuseumNights();
        x.addRoom(0, 0);
        x.addDoor(0, 1, 1, -1);
        x.addGuard();
        x.keep();
        x.addRoom(0, 0);
        x.addDoor(1, 2, 1, -1);
        x.addWork(2, 2, 0);
        x.addWork(1, 2, 0);
        x.go(0, 1, 0);
        x.go(0, 2, 0);
        x.pass(3);
        Check.due("27: used", x.door(1, 4), 1);
        Check.due("32: there was an alarm by the first", x.work(0, 4), 1);
        Check.due("32: the second is troubled", x.work(1, 3), 1);
        x.restore();
        x.addRoom(0, 0);
        for (int what = 2; what <= 5; what++) {
            Check.due("2: a new room has " + what, x.room(2, what), 0);
        }
        x.addDoor(1, 2, 1, -1);
        Check.due("3: a new door was not used", x.door(1, 4), 0);
        for (int work = 0; work < 2; work++) {
            x.addWork(2, 1, 9);
            Check.due("14: a new work is fine", x.work(work, 3), 0);
            Check.due("14: a new work has no alarms", x.work(work, 4), 0);
        }
    }

    private static void staysThatGoOn() {
        MuseumNights x = new MuseumNights();
        furnish(x);
        x.openZone(0);
        x.go(0, 1, 1);
        x.pass(5);
        x.keep();
        x.go(0, 0, 1);
        x.pass(9);
        x.restore();
        x.go(0, 0, 1);
        x.pass(1);
        Check.due("25: the stay that went on was from", x.stay(0, 2), 2);
        x.undo();
        x.pass(3);
        Check.due("23: and so it is by undo", x.stay(0, 2), 2);
    }
}
