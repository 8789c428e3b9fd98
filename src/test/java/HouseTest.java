/** Promises 1 to 7: a new object, rooms, doors, bounds and zones. */
public final class HouseTest {
    private HouseTest() {
    }

    public static void main(String[] args) {
        constants();
        newObject();
        addRoom();
        addRoomDuringTheNight();
        addDoor();
        addDoorFull();
        setBound();
        exclude();
        openZone();
        closeZone();
        Check.end();
    }

    private static void constants() {
        Check.due("UNKNOWN", MuseumNights.UNKNOWN, -1);
        Check.due("BAD_VALUE", MuseumNights.BAD_VALUE, -2);
        Check.due("FULL", MuseumNights.FULL, -3);
        Check.due("NOT_POSSIBLE", MuseumNights.NOT_POSSIBLE, -4);
        Check.due("NONE", MuseumNights.NONE, -5);
    }

    private static void newObject() {
        MuseumNights x = new MuseumNights();
        for (int what = 0; what <= 15; what++) {
            Check.due("1: count(" + what + ")", x.count(what), what == 2 ? 1 : 0);
        }
        Check.due("1: zone of the guard room", x.room(0, 0), Check.NONE);
        for (int what = 1; what <= 8; what++) {
            Check.due("1: room(0, " + what + ")", x.room(0, what), 0);
        }
        Check.due("1: no other room", x.room(1, 0), Check.UNKNOWN);
        Check.due("1: no door", x.door(0, 0), Check.UNKNOWN);
        Check.due("1: no guard", x.guard(0, 0), Check.UNKNOWN);
        Check.due("1: no work", x.work(0, 0), Check.UNKNOWN);
        Check.due("1: no alarm", x.alarm(0, 0), Check.UNKNOWN);
        Check.due("1: no stay", x.stay(0, 0), Check.NONE);
        Check.due("1: nothing due", x.firstDue(), Check.NONE);
        Check.due("1: nothing to undo", x.undo(), Check.NONE);
        Check.due("1: no snapshot", x.restore(), Check.NONE);
        for (int zone = 0; zone < 6; zone++) {
            Check.due("1: zone closed", x.zone(zone, 0), 0);
            Check.due("1: zone excludes none", x.zone(zone, 1), 0);
            Check.due("1: zone has no rooms", x.zone(zone, 2), 0);
            Check.due("1: zone can be opened", x.zone(zone, 4), 1);
        }
        for (int key = 0; key < 8; key++) {
            Check.due("1: key in the cupboard", x.holder(key), Check.NONE);
        }
    }

    private static void addRoom() {
        MuseumNights x = new MuseumNights();
        Check.due("2: first", x.addRoom(0, 0), 1);
        Check.due("2: second", x.addRoom(5, 240), 2);
        Check.due("2: zone -1", x.addRoom(-1, 5), Check.UNKNOWN);
        Check.due("2: zone 6", x.addRoom(6, 5), Check.UNKNOWN);
        Check.due("2: zone least", x.addRoom(Integer.MIN_VALUE, 5), Check.UNKNOWN);
        Check.due("2: zone 6, bound -1", x.addRoom(6, -1), Check.UNKNOWN);
        Check.due("2: bound -1", x.addRoom(0, -1), Check.BAD_VALUE);
        Check.due("2: bound 241", x.addRoom(0, 241), Check.BAD_VALUE);
        Check.due("2: rooms", x.count(2), 3);
        Check.due("2: states", x.count(14), 2);
        Check.due("2: zone of 2", x.room(2, 0), 5);
        Check.due("2: bound of 2", x.room(2, 1), 240);
        for (int room = 3; room < 12; room++) {
            Check.due("2: room " + room, x.addRoom(room % 6, room), room);
        }
        Check.due("2: full", x.addRoom(0, 0), Check.FULL);
        Check.due("2: full, bad bound", x.addRoom(0, 241), Check.BAD_VALUE);
        Check.due("2: full, no zone", x.addRoom(6, 0), Check.UNKNOWN);
        Check.due("2: full is no act", x.undo(), 3);
        Check.due("2: room 11 is gone", x.room(11, 0), Check.UNKNOWN);
        Check.due("2: room 11 again", x.addRoom(4, 1), 11);
        Check.due("2: new zone of 11", x.room(11, 0), 4);
    }

    private static void addRoomDuringTheNight() {
        MuseumNights x = new MuseumNights();
        x.pass(10);
        x.addRoom(0, 3);
        Check.due("2: not watched since it was added", x.room(1, 3), 0);
        Check.due("2: no gap yet", x.room(1, 4), 0);
        Check.due("2: three minutes", x.pass(3), 0);
        Check.due("2: the fourth gives the alarm", x.pass(1), 1);
        Check.due("2: its gap", x.room(1, 4), 4);
        Check.due("35: minutes ahead count as not watched", x.gap(1, 0, 14), 14);
    }

    private static void addDoor() {
        MuseumNights x = new MuseumNights();
        x.addRoom(0, 0);
        x.addRoom(0, 0);
        Check.due("3: first", x.addDoor(0, 1, 1, -1), 0);
        Check.due("3: second", x.addDoor(2, 1, 9, 7), 1);
        Check.due("3: room 3", x.addDoor(3, 1, 1, 0), Check.UNKNOWN);
        Check.due("3: room -1", x.addDoor(-1, 1, 1, 0), Check.UNKNOWN);
        Check.due("3: other 3", x.addDoor(1, 3, 1, 0), Check.UNKNOWN);
        Check.due("3: other -1", x.addDoor(1, -1, 1, 0), Check.UNKNOWN);
        Check.due("3: room 3, minutes 0", x.addDoor(3, 1, 0, 0), Check.UNKNOWN);
        Check.due("3: both 3", x.addDoor(3, 3, 1, 0), Check.UNKNOWN);
        Check.due("3: minutes 0", x.addDoor(0, 2, 0, 0), Check.BAD_VALUE);
        Check.due("3: minutes 10", x.addDoor(0, 2, 10, 0), Check.BAD_VALUE);
        Check.due("3: key -2", x.addDoor(0, 2, 1, -2), Check.BAD_VALUE);
        Check.due("3: key NONE", x.addDoor(0, 2, 1, -5), Check.BAD_VALUE);
        Check.due("3: key 8", x.addDoor(0, 2, 1, 8), Check.BAD_VALUE);
        Check.due("3: the same room", x.addDoor(2, 2, 1, 0), Check.BAD_VALUE);
        Check.due("3: there is a door", x.addDoor(0, 1, 2, 3), Check.NOT_POSSIBLE);
        Check.due("3: there is a door, turned", x.addDoor(1, 0, 2, 3), Check.NOT_POSSIBLE);
        Check.due("3: there is a door, bad minutes", x.addDoor(1, 0, 10, 3), Check.BAD_VALUE);
        Check.due("3: doors", x.count(3), 2);
        Check.due("3: states", x.count(14), 4);
        Check.due("3: the other pair", x.addDoor(0, 2, 2, 0), 2);
        Check.due("3: its key", x.door(2, 3), 0);
        Check.due("3: undone", x.undo(), 3);
        Check.due("3: the door is gone", x.door(2, 0), Check.UNKNOWN);
    }

    private static void addDoorFull() {
        MuseumNights x = new MuseumNights();
        for (int room = 1; room <= 6; room++) {
            x.addRoom(0, 0);
        }
        int doors = 0;
        for (int room = 0; room <= 6 && doors < 20; room++) {
            for (int other = 0; other < room && doors < 20; other++) {
                Check.due("3: door " + doors, x.addDoor(room, other, 1, -1), doors);
                doors++;
            }
        }
        Check.due("3: full", x.addDoor(6, 5, 1, -1), Check.FULL);
        Check.due("3: full, there is a door", x.addDoor(0, 1, 1, -1), Check.NOT_POSSIBLE);
        Check.due("3: full, the same room", x.addDoor(1, 1, 1, -1), Check.BAD_VALUE);
        Check.due("3: doors", x.count(3), 20);
        Check.due("3: last door", x.door(19, 0) * 100 + x.door(19, 1), 604);
        Check.due("3: full is no act", x.undo(), 3);
        Check.due("3: so the last door is gone", x.count(3), 19);
    }

    private static void setBound() {
        MuseumNights x = new MuseumNights();
        x.addRoom(0, 7);
        Check.due("4: the previous one", x.setBound(1, 240), 7);
        Check.due("4: the bound", x.room(1, 1), 240);
        Check.due("4: so already", x.setBound(1, 240), Check.NONE);
        Check.due("4: to none", x.setBound(1, 0), 240);
        Check.due("4: none already", x.setBound(1, 0), Check.NONE);
        Check.due("4: from none", x.setBound(1, 2), 0);
        Check.due("4: room 2", x.setBound(2, 2), Check.UNKNOWN);
        Check.due("4: room -1", x.setBound(-1, 300), Check.UNKNOWN);
        Check.due("4: bound -1", x.setBound(1, -1), Check.BAD_VALUE);
        Check.due("4: bound 241", x.setBound(1, 241), Check.BAD_VALUE);
        Check.due("4: guard room", x.setBound(0, 5), Check.NOT_POSSIBLE);
        Check.due("4: guard room, so already", x.setBound(0, 0), Check.NOT_POSSIBLE);
        Check.due("4: guard room, bad", x.setBound(0, 241), Check.BAD_VALUE);
        Check.due("4: states", x.count(14), 4);
        Check.due("4: alarm by the new bound", x.pass(3), 1);
        x.setBound(1, 4);
        Check.due("4: alarm again by a later one", x.pass(2), 1);
        x.setBound(1, 1);
        Check.due("4: none when it is past", x.pass(10), 0);
    }

    private static void exclude() {
        MuseumNights x = new MuseumNights();
        Check.due("5: one", x.exclude(0, 1, true), 1);
        Check.due("5: of the first one", x.exclude(2, 0, true), 1);
        Check.due("5: three", x.exclude(0, 5, true), 3);
        Check.due("5: bits of 0", x.zone(0, 1), 1 << 1 | 1 << 2 | 1 << 5);
        Check.due("5: bits of 2", x.zone(2, 1), 1);
        Check.due("5: so already", x.exclude(1, 0, true), Check.NONE);
        Check.due("5: not so already", x.exclude(1, 2, false), Check.NONE);
        Check.due("5: not any more", x.exclude(1, 0, false), 0);
        Check.due("5: bits of 0 then", x.zone(0, 1), 1 << 2 | 1 << 5);
        Check.due("5: zone -1", x.exclude(-1, 0, true), Check.UNKNOWN);
        Check.due("5: zone 6", x.exclude(6, 6, true), Check.UNKNOWN);
        Check.due("5: other 6", x.exclude(0, 6, true), Check.UNKNOWN);
        Check.due("5: other -1", x.exclude(0, -1, false), Check.UNKNOWN);
        Check.due("5: the same", x.exclude(3, 3, true), Check.BAD_VALUE);
        Check.due("5: the same, not", x.exclude(3, 3, false), Check.BAD_VALUE);
        x.openZone(3);
        x.openZone(4);
        Check.due("5: both are open", x.exclude(3, 4, true), Check.NOT_POSSIBLE);
        Check.due("5: both are open, not", x.exclude(3, 4, false), Check.NONE);
        Check.due("5: nothing changed", x.zone(3, 1), 0);
        Check.due("5: one is open", x.exclude(3, 1, true), 1);
        x.closeZone(4);
        Check.due("5: one is closed", x.exclude(3, 4, true), 2);
    }

    private static void openZone() {
        MuseumNights x = new MuseumNights();
        x.exclude(0, 1, true);
        Check.due("6: first", x.openZone(0), 1);
        Check.due("6: open", x.zone(0, 0), 1);
        Check.due("6: second", x.openZone(5), 2);
        Check.due("6: excluded", x.openZone(1), Check.NOT_POSSIBLE);
        Check.due("6: open already", x.openZone(0), Check.NONE);
        Check.due("6: zone -1", x.openZone(-1), Check.UNKNOWN);
        Check.due("6: zone 6", x.openZone(6), Check.UNKNOWN);
        Check.due("6: states", x.count(14), 3);
        x.exclude(1, 0, false);
        Check.due("6: not excluded any more", x.openZone(1), 3);
        Check.due("6: open zones", x.count(10), 3);
    }

    private static void closeZone() {
        MuseumNights x = new MuseumNights();
        x.addRoom(0, 0);
        x.addRoom(1, 0);
        x.addDoor(0, 1, 2, -1);
        x.addDoor(1, 2, 2, -1);
        x.addGuard();
        x.openZone(0);
        x.openZone(1);
        x.openZone(2);
        Check.due("7: one of three", x.closeZone(2), 2);
        Check.due("7: closed", x.zone(2, 0), 0);
        Check.due("7: closed already", x.closeZone(2), Check.NONE);
        Check.due("7: zone -1", x.closeZone(-1), Check.UNKNOWN);
        Check.due("7: zone 6", x.closeZone(6), Check.UNKNOWN);
        x.go(0, 1, 3);
        x.go(0, 2, 0);
        x.pass(1);
        Check.due("7: a guard walks to it", x.closeZone(0), Check.NOT_POSSIBLE);
        x.pass(1);
        Check.due("7: a guard stands in it", x.closeZone(0), Check.NOT_POSSIBLE);
        Check.due("7: orders alone do not count", x.closeZone(1), 1);
        x.pass(4);
        Check.due("7: the guard walks away", x.guard(0, 1), 2);
        Check.due("7: so it can be closed", x.closeZone(0), 0);
        Check.due("7: walks to one that is closed", x.closeZone(1), Check.NOT_POSSIBLE);
        Check.due("7: arrives with an alarm", x.pass(1), 1);
        Check.due("7: stands in one that is closed", x.closeZone(1), Check.NOT_POSSIBLE);
    }
}
