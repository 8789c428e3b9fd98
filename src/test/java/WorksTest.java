/** Promises 14 to 17: works and alarms that are cleared. */
public final class WorksTest {
    private WorksTest() {
    }

    public static void main(String[] args) {
        addWork();
        moveWork();
        movedTrouble();
        takeAway();
        clearAlarm();
        openKind();
        crowdedKind();
        aloneKind();
        Check.end();
    }

    /** The guard room, 1 behind it, 2 behind 1; zones 0 and 1; a guard. */
    private static MuseumNights museum() {
        MuseumNights x = new MuseumNights();
        x.addRoom(0, 0);
        x.addRoom(1, 0);
        x.addDoor(0, 1, 1, -1);
        x.addDoor(2, 1, 4, 6);
        x.addGuard();
        return x;
    }

    private static void addWork() {
        MuseumNights x = museum();
        Check.due("14: first", x.addWork(0, 1, 0), 0);
        Check.due("14: second", x.addWork(2, 2, 99), 1);
        Check.due("14: guard room", x.addWork(0, 0, 0), Check.UNKNOWN);
        Check.due("14: room 3", x.addWork(0, 3, 0), Check.UNKNOWN);
        Check.due("14: room -1, bad kind", x.addWork(3, -1, 0), Check.UNKNOWN);
        Check.due("14: guard room, bad limit", x.addWork(0, 0, 100), Check.UNKNOWN);
        Check.due("14: kind -1", x.addWork(-1, 1, 0), Check.BAD_VALUE);
        Check.due("14: kind 3", x.addWork(3, 1, 0), Check.BAD_VALUE);
        Check.due("14: limit -1", x.addWork(0, 1, -1), Check.BAD_VALUE);
        Check.due("14: limit 100", x.addWork(0, 1, 100), Check.BAD_VALUE);
        Check.due("14: fine at first", x.work(1, 3), 0);
        for (int work = 2; work < 10; work++) {
            Check.due("14: work " + work, x.addWork(1, 1, work), work);
        }
        Check.due("14: full", x.addWork(0, 1, 0), Check.FULL);
        Check.due("14: full, bad", x.addWork(3, 1, 0), Check.BAD_VALUE);
        x.undo();
        Check.due("14: full is no act", x.count(5), 9);
        Check.due("14: the last one again", x.addWork(2, 2, 8), 9);
        x.takeAway(4);
        Check.due("14: those taken away count", x.addWork(0, 1, 0), Check.FULL);
        x.nextNight();
        Check.due("14: the next night", x.addWork(1, 2, 3), 0);
    }

    private static void moveWork() {
        MuseumNights x = museum();
        x.addWork(1, 1, 50);
        Check.due("15: no guard", x.moveWork(0, 2), Check.NOT_POSSIBLE);
        x.go(0, 1, 0);
        x.pass(1);
        Check.due("15: guard room", x.moveWork(0, 0), Check.UNKNOWN);
        Check.due("15: room 3", x.moveWork(0, 3), Check.UNKNOWN);
        Check.due("15: room -1", x.moveWork(0, -1), Check.UNKNOWN);
        Check.due("15: work 1", x.moveWork(1, 2), Check.UNKNOWN);
        Check.due("15: work -1", x.moveWork(-1, 2), Check.UNKNOWN);
        Check.due("15: no door to the same room", x.moveWork(0, 1), Check.NOT_POSSIBLE);
        Check.due("15: moved without its key", x.moveWork(0, 2), 4);
        Check.due("15: its room", x.work(0, 1), 2);
        Check.due("15: no guard there", x.moveWork(0, 1), Check.NOT_POSSIBLE);
        x.undo();
        x.addRoom(1, 0);
        Check.due("15: no door", x.moveWork(0, 3), Check.NOT_POSSIBLE);
        x.takeAway(0);
        Check.due("15: taken away", x.moveWork(0, 2), Check.NOT_POSSIBLE);
        Check.due("15: taken away, guard room", x.moveWork(0, 0), Check.UNKNOWN);
    }

    private static void movedTrouble() {
        MuseumNights x = museum();
        x.addWork(1, 1, 0);
        x.go(0, 1, 0);
        x.pass(1);
        Check.due("15: troubled when watched", x.pass(1), 1);
        x.moveWork(0, 2);
        Check.due("15: stays troubled", x.work(0, 3), 1);
        Check.due("15: its alarm keeps its room", x.alarm(0, 1), 1);
        Check.due("15: fine by the next minute", x.pass(1), 0);
        Check.due("15: fine", x.work(0, 3), 0);
    }

    private static void takeAway() {
        MuseumNights x = museum();
        x.addWork(2, 1, 1);
        x.addWork(2, 1, 9);
        x.pass(2);
        Check.due("16: was troubled", x.takeAway(0), 1);
        Check.due("16: was fine", x.takeAway(1), 0);
        Check.due("16: again", x.takeAway(0), Check.NONE);
        Check.due("16: work 2", x.takeAway(2), Check.UNKNOWN);
        Check.due("16: work -1", x.takeAway(-1), Check.UNKNOWN);
        Check.due("16: state", x.work(0, 3), 2);
        Check.due("16: not looked at any more", x.pass(20), 0);
        Check.due("16: none is troubled", x.count(6), 0);
        Check.due("16: not in the room", x.room(1, 7), 0);
        Check.due("16: still a work of the night", x.count(5), 2);
    }

    private static void clearAlarm() {
        MuseumNights x = museum();
        x.addGuard();
        x.setBound(1, 2);
        x.pass(3);
        Check.due("17: guard elsewhere", x.clearAlarm(0, 0), Check.NOT_POSSIBLE);
        Check.due("17: alarm 1", x.clearAlarm(1, 0), Check.UNKNOWN);
        Check.due("17: alarm -1", x.clearAlarm(-1, 0), Check.UNKNOWN);
        Check.due("17: guard 2", x.clearAlarm(0, 2), Check.UNKNOWN);
        Check.due("17: guard -1", x.clearAlarm(0, -1), Check.UNKNOWN);
        x.openZone(0);
        x.go(1, 1, 9);
        x.pass(4);
        Check.due("17: minutes since", x.clearAlarm(0, 1), 5);
        Check.due("17: again", x.clearAlarm(0, 1), Check.NONE);
        Check.due("17: again, guard elsewhere", x.clearAlarm(0, 0), Check.NOT_POSSIBLE);
        Check.due("17: the guard", x.alarm(0, 3), 1);
        Check.due("17: the minute", x.alarm(0, 4), 7);
        Check.due("17: none open", x.count(8), 0);
        Check.due("17: undo", x.undo(), 3);
        Check.due("17: open again", x.alarm(0, 3), Check.NONE);
        x.stop(1);
        x.go(1, 2, 0);
        x.takeKey(0, 6);
        x.handKey(0, 1, 6);
        x.pass(1);
        Check.due("17: has no key, halts, stands there", x.clearAlarm(0, 1), 6);
    }

    private static void openKind() {
        MuseumNights x = museum();
        x.addWork(0, 1, 0);
        Check.due("18: closed and not watched", x.pass(2), 0);
        x.openZone(0);
        Check.due("18: open and not watched", x.pass(1), 1);
        Check.due("18: cause", x.alarm(0, 0), 2);
        Check.due("18: troubled already", x.pass(2), 0);
        x.go(0, 1, 1);
        x.go(0, 0, 0);
        Check.due("18: not watched by the one who walks", x.alarmsIn(1), 0);
        x.pass(1);
        Check.due("18: still troubled", x.work(0, 3), 1);
        x.pass(1);
        Check.due("18: watched", x.work(0, 3), 0);
        Check.due("18: the guard leaves", x.pass(1), 1);
        Check.due("18: alarms of the work", x.work(0, 4), 2);
        x.closeZone(0);
        x.pass(1);
        Check.due("18: fine when closed", x.work(0, 3), 0);
    }

    private static void crowdedKind() {
        MuseumNights x = museum();
        x.addWork(1, 1, 2);
        x.openZone(0);
        x.go(0, 1, 3);
        x.go(0, 0, 0);
        Check.due("18: two minutes watched", x.pass(3), 0);
        Check.due("18: the third is one too many", x.pass(1), 1);
        Check.due("18: its minute", x.alarm(0, 2), 3);
        x.pass(1);
        Check.due("18: fine when not watched", x.work(0, 3), 0);
    }

    private static void aloneKind() {
        MuseumNights x = museum();
        x.pass(5);
        x.addWork(2, 1, 6);
        Check.due("18: six minutes not watched", x.pass(1), 0);
        Check.due("18: the seventh is one too many", x.pass(1), 1);
        x.openZone(0);
        x.go(0, 1, 1);
        x.pass(2);
        Check.due("18: fine when watched", x.work(0, 3), 0);
        x.addWork(2, 2, 0);
        Check.due("18: the limit 0", x.pass(1), 1);
    }
}
