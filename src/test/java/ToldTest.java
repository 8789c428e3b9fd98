/** Promises 26 to 39: what is told. */
public final class ToldTest {
    private ToldTest() {
    }

    public static void main(String[] args) {
        room();
        longestGap();
        door();
        zone();
        guard();
        orderAt();
        holder();
        work();
        alarm();
        stay();
        staysOfOneMinute();
        manyStays();
        gap();
        gapByMinutes();
        way();
        wayByKeys();
        firstDue();
        alarmsIn();
        count();
        Check.end();
    }

    /** Rooms 1 (zone 0) and 2 (zone 1) behind the guard room, one behind the other. */
    private static MuseumNights museum(int guards) {
        MuseumNights x = new MuseumNights();
        x.addRoom(0, 0);
        x.addRoom(1, 0);
        x.addDoor(0, 1, 2, -1);
        x.addDoor(2, 1, 1, 3);
        for (int guard = 0; guard < guards; guard++) {
            x.addGuard();
        }
        return x;
    }

    private static void room() {
        MuseumNights x = museum(2);
        x.setBound(1, 1);
        x.addWork(0, 1, 0);
        x.addWork(0, 1, 0);
        x.addWork(0, 2, 0);
        x.takeAway(0);
        x.go(0, 1, 9);
        x.pass(5);
        int[] of1 = {0, 1, 3, 0, 2, 3, 1, 1, 2};
        int[] of0 = {Check.NONE, 0, 5, 0, 0, 5, 1, 0, 0};
        for (int what = 0; what <= 8; what++) {
            Check.due("26: room(1, " + what + ")", x.room(1, what), of1[what]);
            Check.due("26: room(0, " + what + ")", x.room(0, what), of0[what]);
        }
        Check.due("26: alarm by arrival and bound", x.clearAlarm(0, 0), 4);
        Check.due("26: one is cleared", x.room(1, 8), 1);
        Check.due("26: room 3", x.room(3, 9), Check.UNKNOWN);
        Check.due("26: room -1", x.room(-1, 0), Check.UNKNOWN);
        Check.due("26: what 9", x.room(0, 9), Check.BAD_VALUE);
        Check.due("26: what -1", x.room(0, -1), Check.BAD_VALUE);
    }

    private static void longestGap() {
        MuseumNights x = museum(1);
        x.openZone(0);
        x.pass(6);
        x.go(0, 1, 2);
        x.go(0, 0, 0);
        x.pass(4);
        Check.due("26: the gap ahead of the guard", x.room(1, 4), 8);
        Check.due("26: watched for two", x.room(1, 2), 2);
        x.pass(7);
        Check.due("26: the one that goes on is shorter", x.room(1, 4), 8);
        x.pass(2);
        Check.due("26: the one that goes on is longer", x.room(1, 4), 9);
        Check.due("26: not watched for", x.room(1, 3), 9);
        Check.due("26: watched in", x.room(1, 5), 2);
    }

    private static void door() {
        MuseumNights x = museum(1);
        int[] of0 = {0, 1, 2, Check.NONE, 0};
        int[] of1 = {2, 1, 1, 3, 0};
        for (int what = 0; what <= 4; what++) {
            Check.due("27: door(0, " + what + ")", x.door(0, what), of0[what]);
            Check.due("27: door(1, " + what + ")", x.door(1, what), of1[what]);
        }
        Check.due("27: door 2", x.door(2, 5), Check.UNKNOWN);
        Check.due("27: door -1", x.door(-1, 0), Check.UNKNOWN);
        Check.due("27: what 5", x.door(0, 5), Check.BAD_VALUE);
        Check.due("27: what -1", x.door(0, -1), Check.BAD_VALUE);
        x.go(0, 1, 0);
        x.go(0, 2, 0);
        x.pass(1);
        Check.due("27: set off once", x.door(0, 4), 1);
        x.pass(9);
        Check.due("27: a halt is none", x.door(1, 4), 0);
        x.go(0, 0, 0);
        x.pass(1);
        Check.due("27: set off twice", x.door(0, 4), 2);
        x.nextNight();
        Check.due("27: in all nights", x.door(0, 4), 2);
    }

    private static void zone() {
        MuseumNights x = museum(3);
        x.addRoom(0, 0);
        x.addDoor(0, 3, 9, -1);
        x.exclude(0, 3, true);
        x.exclude(0, 5, true);
        Check.due("28: excludes", x.zone(0, 1), 8 + 32);
        Check.due("28: rooms", x.zone(0, 2), 2);
        Check.due("28: rooms of 1", x.zone(1, 2), 1);
        Check.due("28: rooms of 5", x.zone(5, 2), 0);
        Check.due("28: would open", x.zone(0, 4), 1);
        x.openZone(0);
        Check.due("28: open", x.zone(0, 0), 1);
        Check.due("28: open already", x.zone(0, 4), 0);
        Check.due("28: excluded", x.zone(5, 4), 0);
        Check.due("28: not excluded", x.zone(1, 4), 1);
        x.go(0, 1, 9);
        x.go(1, 3, 9);
        x.pass(2);
        Check.due("28: one stands, one walks", x.zone(0, 3), 1);
        x.pass(7);
        Check.due("28: both stand", x.zone(0, 3), 2);
        Check.due("28: none in 1", x.zone(1, 3), 0);
        Check.due("28: zone 6", x.zone(6, 5), Check.UNKNOWN);
        Check.due("28: zone -1", x.zone(-1, 0), Check.UNKNOWN);
        Check.due("28: what 5", x.zone(0, 5), Check.BAD_VALUE);
        Check.due("28: what -1", x.zone(0, -1), Check.BAD_VALUE);
    }

    private static void guard() {
        MuseumNights x = museum(2);
        x.openZone(0);
        x.takeKey(1, 0);
        x.takeKey(1, 7);
        x.go(1, 1, 6);
        x.go(1, 0, 1);
        x.go(1, 1, 1);
        x.pass(1);
        int[] walking = {Check.NONE, 1, 1, 0, 2, 129, 0, 0};
        for (int what = 0; what <= 7; what++) {
            Check.due("29: walking, " + what, x.guard(1, what), walking[what]);
        }
        x.pass(3);
        int[] standing = {1, Check.NONE, Check.NONE, 4, 2, 129, 0, 1};
        for (int what = 0; what <= 7; what++) {
            Check.due("29: standing, " + what, x.guard(1, what), standing[what]);
        }
        x.stop(1);
        x.go(1, 1, 1);
        x.pass(1);
        Check.due("29: a halt", x.guard(1, 6), 1);
        Check.due("29: none of the other one", x.guard(0, 6), 0);
        Check.due("29: guard 2", x.guard(2, 8), Check.UNKNOWN);
        Check.due("29: guard -1", x.guard(-1, 0), Check.UNKNOWN);
        Check.due("29: what 8", x.guard(0, 8), Check.BAD_VALUE);
        Check.due("29: what -1", x.guard(0, -1), Check.BAD_VALUE);
    }

    private static void orderAt() {
        MuseumNights x = museum(2);
        x.go(1, 2, 99);
        x.go(1, 0, 0);
        Check.due("30: first", x.orderAt(1, 0), 299);
        Check.due("30: second", x.orderAt(1, 1), 0);
        Check.due("30: third", x.orderAt(1, 2), Check.NONE);
        Check.due("30: far", x.orderAt(1, Integer.MAX_VALUE), Check.NONE);
        Check.due("30: of the other one", x.orderAt(0, 0), Check.NONE);
        Check.due("30: place -1", x.orderAt(1, -1), Check.BAD_VALUE);
        Check.due("30: guard 2", x.orderAt(2, -1), Check.UNKNOWN);
        Check.due("30: guard -1", x.orderAt(-1, 0), Check.UNKNOWN);
    }

    private static void holder() {
        MuseumNights x = museum(2);
        x.takeKey(1, 0);
        x.takeKey(0, 7);
        Check.due("31: key 0", x.holder(0), 1);
        Check.due("31: key 7", x.holder(7), 0);
        Check.due("31: key 1", x.holder(1), Check.NONE);
        Check.due("31: key 8", x.holder(8), Check.UNKNOWN);
        Check.due("31: key -1", x.holder(-1), Check.UNKNOWN);
    }

    private static void work() {
        MuseumNights x = museum(1);
        x.addWork(2, 1, 3);
        x.addWork(1, 2, 99);
        x.pass(4);
        int[] of0 = {2, 1, 3, 1, 1};
        int[] of1 = {1, 2, 99, 0, 0};
        for (int what = 0; what <= 4; what++) {
            Check.due("32: work(0, " + what + ")", x.work(0, what), of0[what]);
            Check.due("32: work(1, " + what + ")", x.work(1, what), of1[what]);
        }
        x.takeAway(0);
        Check.due("32: taken away", x.work(0, 3), 2);
        Check.due("32: its alarms stay", x.work(0, 4), 1);
        Check.due("32: work 2", x.work(2, 5), Check.UNKNOWN);
        Check.due("32: work -1", x.work(-1, 0), Check.UNKNOWN);
        Check.due("32: what 5", x.work(0, 5), Check.BAD_VALUE);
        Check.due("32: what -1", x.work(0, -1), Check.BAD_VALUE);
    }

    private static void alarm() {
        MuseumNights x = museum(2);
        x.go(1, 1, 0);
        x.pass(7);
        int[] open = {0, 1, 1, Check.NONE, Check.NONE};
        for (int what = 0; what <= 4; what++) {
            Check.due("33: open, " + what, x.alarm(0, what), open[what]);
        }
        Check.due("33: cleared", x.clearAlarm(0, 1), 6);
        int[] cleared = {0, 1, 1, 1, 7};
        for (int what = 0; what <= 4; what++) {
            Check.due("33: cleared, " + what, x.alarm(0, what), cleared[what]);
        }
        Check.due("33: alarm 1", x.alarm(1, 5), Check.UNKNOWN);
        Check.due("33: alarm -1", x.alarm(-1, 0), Check.UNKNOWN);
        Check.due("33: what 5", x.alarm(0, 5), Check.BAD_VALUE);
        Check.due("33: what -1", x.alarm(0, -1), Check.BAD_VALUE);
    }

    private static void dueStay(MuseumNights x, int back, int guard, int room, int from, int until) {
        int[] want = {guard, room, from, until};
        for (int what = 0; what <= 3; what++) {
            Check.due("34: stay(" + back + ", " + what + ")", x.stay(back, what), want[what]);
        }
    }

    private static void stay() {
        MuseumNights x = museum(1);
        x.openZone(0);
        Check.due("34: none", x.stay(0, 0), Check.NONE);
        x.pass(3);
        Check.due("34: one that goes on is not over", x.stay(0, 0), Check.NONE);
        x.go(0, 1, 4);
        x.go(0, 0, 0);
        x.go(0, 1, 0);
        x.pass(20);
        dueStay(x, 0, 0, 0, 11, 11);
        dueStay(x, 1, 0, 1, 5, 9);
        dueStay(x, 2, 0, 0, 0, 3);
        Check.due("34: no more", x.stay(3, 0), Check.NONE);
        Check.due("34: far", x.stay(Integer.MAX_VALUE, 0), Check.NONE);
        Check.due("34: back -1", x.stay(-1, 0), Check.BAD_VALUE);
        Check.due("34: what 4", x.stay(0, 4), Check.BAD_VALUE);
        Check.due("34: what 4, none", x.stay(3, 4), Check.BAD_VALUE);
        Check.due("34: what -1", x.stay(0, -1), Check.BAD_VALUE);
        x.stop(0);
        x.go(0, 0, 0);
        x.pass(1);
        dueStay(x, 0, 0, 1, 13, 23);
    }

    private static void staysOfOneMinute() {
        MuseumNights x = museum(4);
        x.openZone(0);
        x.go(3, 1, 0);
        x.go(1, 1, 0);
        x.go(2, 1, 0);
        x.pass(1);
        x.go(0, 1, 0);
        x.pass(1);
        dueStay(x, 0, 0, 0, 0, 1);
        dueStay(x, 1, 3, 0, 0, 0);
        dueStay(x, 2, 2, 0, 0, 0);
        dueStay(x, 3, 1, 0, 0, 0);
    }

    /** As many stays as a night can hold: each of four guards ends one in each minute. */
    private static void fillNight(MuseumNights x) {
        x.addRoom(0, 0);
        x.addDoor(0, 1, 1, -1);
        for (int guard = 0; guard < 4; guard++) {
            x.addGuard();
        }
        x.openZone(0);
        Check.typeAll(x, "1,0,1,0,1,0,1,0,1,0,1,0");
        x.keep();
        for (int round = 0; round < 60; round++) {
            for (int guard = 0; guard < 4; guard++) {
                x.readOrders(guard);
            }
            x.pass(12);
        }
    }

    private static void manyStays() {
        MuseumNights x = new MuseumNights();
        fillNight(x);
        Check.due("34: stays", x.count(12), 2880);
        Check.due("39: minute", x.count(0), 720);
        Check.due("34: no more", x.stay(2880, 0), Check.NONE);
        Check.due("27: uses", x.door(0, 4), 2880);
        Check.due("25: restore", x.restore(), 0);
        Check.due("34: none", x.count(12), 0);
        Check.due("23: undo", x.undo(), 3);
        Check.due("34: all of them again", x.count(12), 2880);
        dueStay(x, 2879, 0, 0, 0, 0);
        dueStay(x, 0, 3, 1, 719, 719);
        // each object is asked no more than 512 calls allow
        for (int first = 0; first < 2880; first += 288) {
            x = new MuseumNights();
            fillNight(x);
            for (int back = first; back < first + 288; back += 8 + back % 3) {
                int minute = 719 - back / 4;
                dueStay(x, back, 3 - back % 4, minute % 2, minute, minute);
            }
        }
    }

    private static void gap() {
        MuseumNights x = museum(1);
        x.openZone(0);
        x.go(0, 1, 3);
        x.go(0, 0, 5);
        x.go(0, 1, 0);
        x.pass(20);
        // room 1 is watched in 2 to 4, and from 14 on; the guard room in 7 to 11
        Check.due("35: whole", x.gap(1, 0, 20), 9);
        Check.due("35: the first one alone", x.gap(1, 0, 5), 2);
        Check.due("35: cut at its start", x.gap(1, 8, 20), 6);
        Check.due("35: cut at its end", x.gap(1, 0, 9), 4);
        Check.due("35: watched", x.gap(1, 2, 5), 0);
        Check.due("35: no minutes", x.gap(1, 6, 6), 0);
        Check.due("35: at the end", x.gap(1, 20, 20), 0);
        Check.due("35: guard room", x.gap(0, 0, 20), 8);
        Check.due("35: never watched", x.gap(2, 3, 18), 15);
        Check.due("35: room 3", x.gap(3, -1, 20), Check.UNKNOWN);
        Check.due("35: room -1", x.gap(-1, 0, 20), Check.UNKNOWN);
        Check.due("35: from -1", x.gap(1, -1, 20), Check.BAD_VALUE);
        Check.due("35: until less than from", x.gap(1, 5, 4), Check.BAD_VALUE);
        Check.due("35: until 21", x.gap(1, 0, 21), Check.BAD_VALUE);
        Check.due("35: from 21", x.gap(1, 21, 21), Check.BAD_VALUE);
        Museums.passMany(x, 700);
        Check.due("35: the whole night", x.gap(2, 0, 720), 720);
        Check.due("35: behind it", x.gap(2, 0, 721), Check.BAD_VALUE);
    }

    private static void gapByMinutes() {
        MuseumNights x = museum(1);
        x.pass(1);
        x.go(0, 1, 0);
        x.pass(4);
        int[] of0 = {0, 1, 1, 1, 1};
        int[] of1 = {1, 1, 1, 0, 0};
        for (int minute = 0; minute < 5; minute++) {
            Check.due("35: guard room in " + minute, x.gap(0, minute, minute + 1), of0[minute]);
            Check.due("35: room 1 in " + minute, x.gap(1, minute, minute + 1), of1[minute]);
        }
    }

    private static void way() {
        MuseumNights x = new MuseumNights();
        for (int room = 1; room <= 5; room++) {
            x.addRoom(0, 0);
        }
        x.addDoor(0, 1, 9, -1);
        x.addDoor(0, 2, 2, -1);
        x.addDoor(2, 3, 2, -1);
        x.addDoor(3, 1, 2, -1);
        x.addDoor(1, 4, 9, -1);
        x.addGuard();
        Check.due("36: stands there", x.way(0, 0), 0);
        Check.due("36: three doors are shorter than one", x.way(0, 1), 6);
        Check.due("36: behind it", x.way(0, 4), 15);
        Check.due("36: no door", x.way(0, 5), Check.NONE);
        Check.due("36: room 6", x.way(0, 6), Check.UNKNOWN);
        Check.due("36: room -1", x.way(0, -1), Check.UNKNOWN);
        Check.due("36: guard 1", x.way(1, 0), Check.UNKNOWN);
        Check.due("36: guard -1", x.way(-1, 0), Check.UNKNOWN);
        x.go(0, 1, 50);
        x.pass(4);
        Check.due("36: the room to which the guard walks", x.way(0, 1), 5);
        Check.due("36: from the end of the walk on", x.way(0, 3), 7);
        Check.due("36: back", x.way(0, 0), 11);
        Check.due("36: no door for one who walks", x.way(0, 5), Check.NONE);
        x.pass(5);
        Check.due("36: stays do not count", x.way(0, 4), 9);
    }

    private static void wayByKeys() {
        MuseumNights x = new MuseumNights();
        for (int room = 1; room <= 11; room++) {
            x.addRoom(0, 0);
            x.addDoor(room, room - 1, 9, room == 6 ? 7 : -1);
        }
        x.addDoor(0, 11, 1, 0);
        x.addGuard();
        x.addGuard();
        Check.due("36: up to the locked door", x.way(0, 5), 45);
        Check.due("36: the locked door", x.way(0, 6), Check.NONE);
        x.takeKey(0, 7);
        Check.due("36: by its key", x.way(0, 11), 99);
        Check.due("36: the other one has it not", x.way(1, 11), Check.NONE);
        x.takeKey(1, 0);
        Check.due("36: by another key", x.way(1, 11), 1);
        Check.due("36: and back", x.way(1, 6), 46);
        x.handKey(1, 0, 0);
        Check.due("36: by both", x.way(0, 6), 46);
    }

    private static void firstDue() {
        MuseumNights x = museum(1);
        Check.due("37: no bounds", x.firstDue(), Check.NONE);
        x.setBound(1, 9);
        x.setBound(2, 9);
        Check.due("37: the lowest of several", x.firstDue(), 1);
        x.setBound(2, 8);
        Check.due("37: the fewest left", x.firstDue(), 2);
        x.openZone(0);
        x.openZone(1);
        x.takeKey(0, 3);
        x.go(0, 1, 0);
        x.go(0, 2, 1);
        x.pass(4);
        Check.due("37: 2 is watched", x.room(2, 2), 1);
        Check.due("37: so the other one", x.firstDue(), 1);
        x.pass(5);
        Check.due("37: one minute left", x.firstDue(), 1);
        x.pass(1);
        Check.due("37: 0 are left out", x.firstDue(), 2);
        x.setBound(1, 3);
        Check.due("37: less than 0 are left out", x.firstDue(), 2);
        x.setBound(2, 0);
        Check.due("37: none", x.firstDue(), Check.NONE);
    }

    private static void alarmsIn() {
        MuseumNights x = museum(1);
        x.setBound(1, 3);
        x.addWork(2, 2, 5);
        x.go(0, 1, 0);
        x.go(0, 0, 0);
        Check.due("38: 0", x.alarmsIn(0), Check.BAD_VALUE);
        Check.due("38: 61", x.alarmsIn(61), Check.BAD_VALUE);
        Check.due("38: two", x.alarmsIn(2), 1);
        Check.due("38: four", x.alarmsIn(4), 2);
        Check.due("38: sixty", x.alarmsIn(60), 3);
        Check.due("38: nothing happened", x.count(0), 0);
        Check.due("38: no alarms", x.count(7), 0);
        Check.due("38: orders stay", x.guard(0, 4), 2);
        Check.due("38: no act", x.count(14), 4);
        Check.due("38: as foretold", x.pass(60), 3);
        Check.due("38: none behind them", x.alarmsIn(60), 0);
        Museums.passMany(x, 601);
        Check.due("38: would be more than 720", x.alarmsIn(60), Check.NOT_POSSIBLE);
        Check.due("38: would be more, bad", x.alarmsIn(61), Check.BAD_VALUE);
        Check.due("38: just 720", x.alarmsIn(59), 0);
    }

    private static void count() {
        MuseumNights x = museum(2);
        x.addWork(2, 1, 2);
        x.addWork(2, 2, 0);
        x.addWork(2, 2, 50);
        x.openZone(0);
        x.openZone(4);
        x.takeKey(0, 1);
        x.go(0, 1, 0);
        x.go(0, 1, 0);
        x.go(1, 0, 0);
        x.pass(5);
        x.clearAlarm(0, 0);
        Check.typeAll(x, "1,2");
        int[] counts = {5, 0, 3, 2, 2, 3, 1, 1, 1, 0, 2, 1, 1, 2, 4, 3};
        for (int what = 0; what <= 15; what++) {
            Check.due("39: count(" + what + ")", x.count(what), counts[what]);
        }
        Check.due("39: 16", x.count(16), Check.BAD_VALUE);
        Check.due("39: -1", x.count(-1), Check.BAD_VALUE);
        x.takeAway(1);
        Check.due("39: one taken away is not troubled", x.count(6), 0);
    }
}
