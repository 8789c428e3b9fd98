/** Promises 18 and 19: minutes that pass, in their six steps, and the next night. */
public final class TimeTest {
    private TimeTest() {
    }

    public static void main(String[] args) {
        wrongMinutes();
        walks();
        keyedDoors();
        halts();
        closedZone();
        bounds();
        orderOfAlarms();
        lostAlarms();
        nextNight();
        nextNightKeeps();
        Check.end();
    }

    private static MuseumNights museum(int guards) {
        MuseumNights x = new MuseumNights();
        x.addRoom(0, 0);
        x.addRoom(1, 0);
        x.addDoor(0, 1, 2, -1);
        x.addDoor(1, 2, 1, 3);
        for (int guard = 0; guard < guards; guard++) {
            x.addGuard();
        }
        return x;
    }

    private static void wrongMinutes() {
        MuseumNights x = museum(1);
        Check.due("18: 0", x.pass(0), Check.BAD_VALUE);
        Check.due("18: -1", x.pass(-1), Check.BAD_VALUE);
        Check.due("18: 61", x.pass(61), Check.BAD_VALUE);
        Check.due("18: greatest", x.pass(Integer.MAX_VALUE), Check.BAD_VALUE);
        for (int hour = 1; hour <= 11; hour++) {
            Check.due("18: hour " + hour, x.pass(60), 0);
        }
        Check.due("18: the minute", x.count(0), 660);
        x.pass(1);
        Check.due("18: would be 721", x.pass(60), Check.NOT_POSSIBLE);
        Check.due("18: would be more, bad", x.pass(61), Check.BAD_VALUE);
        Check.due("18: just 720", x.pass(59), 0);
        Check.due("18: the last minute", x.count(0), 720);
        Check.due("18: one more", x.pass(1), Check.NOT_POSSIBLE);
        Check.due("18: one more, bad", x.pass(0), Check.BAD_VALUE);
        Check.due("18: watched all the time", x.room(0, 2), 720);
        Check.due("18: not watched all the time", x.room(1, 3), 720);
    }

    private static void walks() {
        MuseumNights x = museum(1);
        x.openZone(0);
        x.go(0, 1, 2);
        x.go(0, 0, 0);
        x.go(0, 1, 0);
        x.pass(1);
        Check.due("18: walks", x.guard(0, 1), 1);
        Check.due("18: one minute left", x.guard(0, 2), 1);
        Check.due("18: guard room is not watched", x.room(0, 3), 1);
        x.pass(1);
        Check.due("18: stands", x.guard(0, 0), 1);
        Check.due("18: stay left", x.guard(0, 3), 2);
        Check.due("18: not watched yet", x.room(1, 2), 0);
        x.pass(1);
        Check.due("18: stay is less", x.guard(0, 3), 1);
        Check.due("18: watched", x.room(1, 2), 1);
        x.pass(1);
        Check.due("18: stands with 0 left", x.guard(0, 0), 1);
        x.pass(1);
        Check.due("18: sets off in the minute behind", x.guard(0, 1), 0);
        x.pass(1);
        Check.due("18: in the guard room", x.guard(0, 0), 0);
        x.pass(1);
        Check.due("18: a stay of 0 is left at once", x.guard(0, 1), 1);
        Check.due("18: and does not watch", x.room(0, 5), 0);
        Check.due("18: three stays are over", x.count(12), 3);
    }

    private static void keyedDoors() {
        MuseumNights x = museum(2);
        x.openZone(0);
        x.openZone(1);
        x.takeKey(1, 3);
        x.takeKey(0, 2);
        x.go(0, 1, 0);
        x.go(0, 2, 0);
        x.go(0, 1, 0);
        x.go(1, 1, 0);
        x.go(1, 2, 0);
        x.pass(3);
        Check.due("18: halts without the key", x.guard(0, 6), 1);
        Check.due("18: all orders are dropped", x.guard(0, 4), 0);
        Check.due("18: stands there", x.guard(0, 0), 1);
        Check.due("18: watches there", x.room(1, 2), 1);
        Check.due("18: walks with the key", x.guard(1, 0), 2);
        Check.due("18: a door is used by two", x.door(0, 4), 2);
        Check.due("18: one by one", x.door(1, 4), 1);
    }

    private static void halts() {
        MuseumNights x = museum(1);
        x.go(0, 0, 5);
        x.go(0, 1, 0);
        x.pass(1);
        Check.due("18: an order for the same room", x.guard(0, 6), 1);
        Check.due("18: drops the others", x.guard(0, 4), 0);
        Check.due("18: gives no stay", x.guard(0, 3), 0);
        x.go(0, 2, 0);
        x.pass(1);
        Check.due("18: no door", x.guard(0, 6), 2);
        Check.due("18: a halt ends no stay", x.count(12), 0);
        x.go(0, 1, 0);
        x.pass(1);
        Check.due("18: the stay from 0", x.stay(0, 2), 0);
        Check.due("18: up to the minute of setting off", x.stay(0, 3), 2);
        Check.due("18: halts of the night", x.count(13), 2);
    }

    private static void closedZone() {
        MuseumNights x = museum(1);
        x.go(0, 1, 0);
        x.go(0, 0, 0);
        Check.due("18: on the way", x.pass(1), 0);
        Check.due("18: arrives at a closed one", x.pass(1), 1);
        Check.due("18: cause", x.alarm(0, 0), 0);
        Check.due("18: room", x.alarm(0, 1), 1);
        Check.due("18: minute", x.alarm(0, 2), 1);
        Check.due("18: the guard room is in no zone", x.pass(2), 0);
        x.openZone(0);
        x.go(0, 1, 0);
        Check.due("18: arrives at an open one", x.pass(2), 0);
    }

    private static void bounds() {
        MuseumNights x = museum(1);
        x.setBound(1, 4);
        x.setBound(2, 240);
        x.openZone(0);
        Check.due("18: as many as the bound", x.pass(4), 0);
        Check.due("18: one more", x.pass(1), 1);
        Check.due("18: cause", x.alarm(0, 0), 1);
        Check.due("18: no second one", x.pass(20), 0);
        x.go(0, 1, 1);
        x.go(0, 0, 0);
        x.pass(4);
        Check.due("18: watched between", x.room(1, 3), 1);
        Check.due("18: not yet again", x.pass(3), 0);
        Check.due("18: again", x.pass(1), 1);
        Check.due("18: the bound 240", Museums.passMany(x, 240 - x.count(0)), 0);
        Check.due("18: the minute behind", x.pass(1), 1);
        Check.due("18: its room", x.alarm(2, 1), 2);
        Check.due("18: its minute", x.alarm(2, 2), 240);
    }

    private static void orderOfAlarms() {
        MuseumNights x = museum(2);
        x.addRoom(0, 1);
        x.addDoor(0, 3, 2, -1);
        x.setBound(2, 1);
        x.addWork(2, 3, 1);
        x.addWork(2, 2, 1);
        x.go(0, 3, 0);
        x.go(1, 1, 0);
        x.pass(1);
        Check.due("18: all in one minute", x.pass(1), 6);
        int[] causes = {0, 0, 1, 1, 2, 2};
        int[] rooms = {3, 1, 2, 3, 3, 2};
        for (int alarm = 0; alarm < 6; alarm++) {
            Check.due("18: cause of " + alarm, x.alarm(alarm, 0), causes[alarm]);
            Check.due("18: room of " + alarm, x.alarm(alarm, 1), rooms[alarm]);
            Check.due("18: minute of " + alarm, x.alarm(alarm, 2), 1);
        }
    }

    private static void lostAlarms() {
        MuseumNights x = new MuseumNights();
        x.addRoom(0, 0);
        x.addDoor(0, 1, 1, -1);
        x.addGuard();
        for (int work = 0; work < 10; work++) {
            x.addWork(1, 1, 0);
        }
        for (int round = 0; round < 3; round++) {
            x.go(0, 1, 1);
            x.go(0, 0, 0);
            Check.due("18: eleven alarms", x.pass(3), 11);
        }
        x.go(0, 1, 1);
        x.go(0, 0, 0);
        Check.due("18: lost ones, too", x.pass(3), 11);
        Check.due("18: noted", x.count(7), 40);
        Check.due("18: lost", x.count(9), 4);
        Check.due("18: the last one", x.alarm(39, 2), 10);
        Check.due("18: no more", x.alarm(40, 0), Check.UNKNOWN);
        Check.due("18: a lost one counts for its work", x.work(9, 4), 4);
        Check.due("18: alarms that are open", x.room(1, 8), 40);
        x.nextNight();
        Check.due("19: none is lost", x.count(9), 0);
    }

    private static void nextNight() {
        MuseumNights x = museum(2);
        x.addGuard();
        x.setBound(2, 30);
        x.exclude(0, 4, true);
        x.openZone(0);
        x.addWork(2, 2, 3);
        x.takeKey(0, 3);
        Check.due("19: a key is out", x.nextNight(), Check.NOT_POSSIBLE);
        x.bringKey(0, 3);
        x.go(0, 1, 50);
        x.go(0, 0, 2);
        x.go(1, 2, 2);
        x.go(2, 1, 2);
        x.pass(5);
        x.go(2, 0, 0);
        x.pass(1);
        Check.due("19: one is on the way", x.guard(2, 1), 0);
        Check.due("19: the first night is over", x.nextNight(), 1);
        int[] counts = {0, 1, 3, 2, 3, 0, 0, 0, 0, 0, 0, 0, 0, 0, 4, 0};
        for (int what = 0; what <= 15; what++) {
            Check.due("19: count(" + what + ")", x.count(what), counts[what]);
        }
        int[] guard = {0, Check.NONE, Check.NONE, 0, 0, 0, 0, 0};
        for (int number = 0; number < 3; number++) {
            for (int what = 0; what <= 7; what++) {
                Check.due("19: guard(" + number + ", " + what + ")", x.guard(number, what), guard[what]);
            }
        }
        for (int room = 0; room < 3; room++) {
            for (int what = 2; what <= 5; what++) {
                Check.due("19: room(" + room + ", " + what + ")", x.room(room, what), 0);
            }
        }
        Check.due("19: no stay", x.stay(0, 0), Check.NONE);
        Check.due("19: no alarm", x.alarm(0, 0), Check.UNKNOWN);
        Check.due("19: no work", x.work(0, 0), Check.UNKNOWN);
        Check.due("19: closed", x.zone(0, 0), 0);
    }

    private static void nextNightKeeps() {
        MuseumNights x = museum(1);
        x.setBound(2, 30);
        x.exclude(0, 4, true);
        x.go(0, 1, 0);
        x.pass(30);
        Check.due("19: first", x.nextNight(), 1);
        Check.due("19: bounds stay", x.room(2, 1), 30);
        Check.due("19: exclusions stay", x.zone(4, 1), 1);
        Check.due("19: doors stay", x.door(1, 3), 3);
        Check.due("19: uses are those of all nights", x.door(0, 4), 1);
        Check.due("19: the bound counts from 0", x.pass(30), 0);
        Check.due("19: gap", x.gap(2, 0, 30), 30);
        Check.due("19: alarm", x.pass(1), 1);
        x.go(0, 1, 0);
        x.pass(1);
        Check.due("19: the first stay is from 0", x.stay(0, 2), 0);
        Check.due("19: up to now", x.stay(0, 3), 31);
        Check.due("19: uses", x.door(0, 4), 2);
        Check.due("19: second", x.nextNight(), 2);
        Check.due("19: undo", x.undo(), 3);
        Check.due("19: one night is over", x.count(1), 1);
        Check.due("19: the minute before", x.count(0), 32);
    }
}
