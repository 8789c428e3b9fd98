/** Promises 1 to 7: a new object, rooms, doors, bounds and zones. */
final class HouseEdges extends Edges {
    private static final Acts NEW = Museums.NEW;
    private static final Acts NIGHT = Museums.NIGHT;
    /** A room and a door were there, were watched and used, and are not there any more. */
    private static final Acts UNDONE = x -> {
        x.addGuard();
        x.keep();
        x.addRoom(0, 5);
        x.addDoor(0, 1, 1, -1);
        x.go(0, 1, 3);
        x.pass(9);
        x.go(0, 0, 0);
        x.pass(9);
        x.restore();
    };

    @Override
    void run() {
        newObject();
        addRoom();
        addRoomErrors();
        addDoor();
        addDoorReturns();
        addDoorErrors();
        setBound();
        setBoundErrors();
        exclude();
        excludeErrors();
        openZone();
        closeZone();
        closeZoneErrors();
    }

    private void newObject() {
        promise(1);
        says("Creates a museum that has just the guard room.");
        tellRow("count", NEW, (x, what) -> x.count(what), 0, 0, 1, 0, 0, 0, 0, 0, 0, 0, 0, 0, 0, 0, 0, 0);
        tellRow("guard room", NEW, (x, what) -> x.room(0, what), NONE, 0, 0, 0, 0, 0, 0, 0, 0);
        tellRow("zone 5", NEW, (x, what) -> x.zone(5, what), 0, 0, 0, 0, 1);
        tellRow("holder", NEW, (x, key) -> x.holder(key), NONE, NONE, NONE, NONE, NONE, NONE, NONE, NONE);
        refuse("no room 1", NEW, x -> x.room(1, 0), UNKNOWN);
        refuse("no door", NEW, x -> x.door(0, 0), UNKNOWN);
        refuse("no guard", NEW, x -> x.guard(0, 0), UNKNOWN);
        refuse("no orders", NEW, x -> x.orderAt(0, 0), UNKNOWN);
        refuse("no work", NEW, x -> x.work(0, 0), UNKNOWN);
        refuse("no alarm", NEW, x -> x.alarm(0, 0), UNKNOWN);
        refuse("no stay", NEW, x -> x.stay(0, 0), NONE);
        refuse("nothing due", NEW, x -> x.firstDue(), NONE);
        refuse("no history", NEW, x -> x.undo(), NONE);
        refuse("no snapshot", NEW, x -> x.restore(), NONE);
        answer("no text", NEW, x -> x.clearText(), 0);
        tell("a gap of no minutes", NEW, x -> x.gap(0, 0, 0), 0);
        tell("no alarms ahead", NEW, x -> x.alarmsIn(60), 0);
        act("a minute passes", NEW, x -> x.pass(1), 0);
        answer("another object has no part in it", NEW, x -> {
            MuseumNights other = new MuseumNights();
            NIGHT.on(other);
            return x.count(2) * 100 + x.count(15) + x.restore();
        }, 100 + NONE);
    }

    private void addRoom() {
        promise(2);
        says("Adds a room. This is an act.");
        act("in a new museum", NEW, x -> x.addRoom(3, 7), 1);
        act("during a night", NIGHT, x -> x.addRoom(3, 7), 4);
        tellRow("the room", NIGHT.then(x -> x.addRoom(3, 7)), (x, what) -> x.room(4, what), 3, 7, 0, 0, 0, 0, 0, 0, 0);
        tellRow("the room in place of one that is not there any more", UNDONE.then(x -> x.addRoom(3, 7)),
            (x, what) -> x.room(1, what), 3, 7, 0, 0, 0, 0, 0, 0, 0);
        says("`zone`: 0 to 5");
        act("zone 0", NEW, x -> x.addRoom(0, 9), 1);
        act("zone 5", NEW, x -> x.addRoom(5, 9), 1);
        tell("zone 0 is told", NEW.then(x -> x.addRoom(0, 9)), x -> x.room(1, 0), 0);
        tell("zone 5 is told", NEW.then(x -> x.addRoom(5, 9)), x -> x.room(1, 0), 5);
        refuseOutside("zone", 0, 5, NIGHT, (x, zone) -> x.addRoom(zone, 9), UNKNOWN);
        says("`bound`: 0 to 240");
        act("bound 0", NEW, x -> x.addRoom(1, 0), 1);
        act("bound 240", NEW, x -> x.addRoom(1, 240), 1);
        tell("bound 0 is told", NEW.then(x -> x.addRoom(1, 0)), x -> x.room(1, 1), 0);
        tell("bound 240 is told", NEW.then(x -> x.addRoom(1, 240)), x -> x.room(1, 1), 240);
        refuseOutside("bound", 0, 240, NIGHT, (x, bound) -> x.addRoom(1, bound), BAD_VALUE);
    }

    private void addRoomErrors() {
        Acts twelve = Museums.rooms(11);
        says("Returns its number;");
        act("the first one", NEW, x -> x.addRoom(0, 0), 1);
        act("the last one", Museums.rooms(10), x -> x.addRoom(0, 0), 11);
        act("the number of one that was undone", twelve.then(x -> x.undo()), x -> x.addRoom(0, 0), 11);
        says("UNKNOWN if there is no such zone;");
        refuse("just below", NEW, x -> x.addRoom(-1, 0), UNKNOWN);
        refuse("just above", NEW, x -> x.addRoom(6, 0), UNKNOWN);
        refuse("ahead of BAD_VALUE", NEW, x -> x.addRoom(6, 241), UNKNOWN);
        refuse("ahead of FULL", twelve, x -> x.addRoom(-1, 0), UNKNOWN);
        refuse("ahead of both", twelve, x -> x.addRoom(6, -1), UNKNOWN);
        says("BAD_VALUE;");
        refuse("just below", NEW, x -> x.addRoom(0, -1), BAD_VALUE);
        refuse("just above", NEW, x -> x.addRoom(0, 241), BAD_VALUE);
        refuse("ahead of FULL", twelve, x -> x.addRoom(0, 241), BAD_VALUE);
        says("FULL if there are 12.");
        refuse("with 12", twelve, x -> x.addRoom(0, 0), FULL);
        act("with 11", Museums.rooms(10), x -> x.addRoom(5, 240), 11);
        tell("there are 12 then", twelve.then(x -> x.addRoom(0, 0)), x -> x.count(2), 12);
    }

    private void addDoor() {
        promise(3);
        Acts three = Museums.rooms(2);
        says("Adds a door. This is an act.");
        act("in a new house", three, x -> x.addDoor(0, 1, 3, 2), 0);
        act("during a night", NIGHT, x -> x.addDoor(2, 3, 3, 2), 3);
        tellRow("the door", NIGHT.then(x -> x.addDoor(3, 2, 4, 6)), (x, what) -> x.door(3, what), 3, 2, 4, 6, 0);
        tellRow("the door in place of one that is not there any more",
            UNDONE.then(x -> x.addRoom(0, 0)).then(x -> x.addDoor(1, 0, 4, 6)),
            (x, what) -> x.door(0, what), 1, 0, 4, 6, 0);
        says("`room`: a room");
        act("the first", three, x -> x.addDoor(0, 1, 1, -1), 0);
        act("the last", three, x -> x.addDoor(2, 1, 1, -1), 0);
        refuseOutside("room", 0, 2, three, (x, room) -> x.addDoor(room, 1, 1, -1), UNKNOWN);
        says("`other`: a room");
        act("the first", three, x -> x.addDoor(1, 0, 1, -1), 0);
        act("the last", three, x -> x.addDoor(1, 2, 1, -1), 0);
        refuseOutside("other", 0, 2, three, (x, other) -> x.addDoor(1, other, 1, -1), UNKNOWN);
        says("`minutes`: 1 to 9");
        act("1", three, x -> x.addDoor(0, 1, 1, -1), 0);
        act("9", three, x -> x.addDoor(0, 1, 9, -1), 0);
        tell("1 is told", three.then(x -> x.addDoor(0, 1, 1, -1)), x -> x.door(0, 2), 1);
        tell("9 is told", three.then(x -> x.addDoor(0, 1, 9, -1)), x -> x.door(0, 2), 9);
        refuseOutside("minutes", 1, 9, three, (x, minutes) -> x.addDoor(0, 1, minutes, -1), BAD_VALUE);
        says("`key`: 0 to 7, or -1 for none");
        act("-1", three, x -> x.addDoor(0, 1, 1, -1), 0);
        act("0", three, x -> x.addDoor(0, 1, 1, 0), 0);
        act("7", three, x -> x.addDoor(0, 1, 1, 7), 0);
        tell("none is told", three.then(x -> x.addDoor(0, 1, 1, -1)), x -> x.door(0, 3), NONE);
        tell("0 is told", three.then(x -> x.addDoor(0, 1, 1, 0)), x -> x.door(0, 3), 0);
        tell("7 is told", three.then(x -> x.addDoor(0, 1, 1, 7)), x -> x.door(0, 3), 7);
        refuse("NONE", three, x -> x.addDoor(0, 1, 1, NONE), BAD_VALUE);
        refuseOutside("key", -1, 7, three, (x, key) -> x.addDoor(0, 1, 1, key), BAD_VALUE);
    }

    private void addDoorReturns() {
        Acts three = Museums.rooms(2);
        Acts twenty = Museums.doors(20);
        says("Returns its number;");
        act("the first one", three, x -> x.addDoor(0, 1, 1, -1), 0);
        act("the last one", Museums.doors(19), x -> x.addDoor(0, 7, 1, -1), 19);
        act("the number of one that was undone", twenty.then(x -> x.undo()), x -> x.addDoor(7, 6, 1, -1), 19);
        says("NOT_POSSIBLE if there is a door between them;");
        Acts one = three.then(x -> x.addDoor(0, 1, 1, 5));
        refuse("the same", one, x -> x.addDoor(0, 1, 1, 5), NOT_POSSIBLE);
        refuse("turned", one, x -> x.addDoor(1, 0, 1, 5), NOT_POSSIBLE);
        refuse("with another key and minutes", one, x -> x.addDoor(0, 1, 2, -1), NOT_POSSIBLE);
        refuse("the last of 20", twenty, x -> x.addDoor(6, 4, 1, 5), NOT_POSSIBLE);
        refuse("the first of 20, turned", twenty, x -> x.addDoor(0, 1, 1, 5), NOT_POSSIBLE);
        act("a door of one of them is none between them", one, x -> x.addDoor(0, 2, 1, 5), 1);
        act("nor is one of the other", one, x -> x.addDoor(2, 1, 1, 5), 1);
        act("one that was undone is none", one.then(x -> x.undo()), x -> x.addDoor(0, 1, 1, 5), 0);
        refuse("ahead of FULL", twenty, x -> x.addDoor(2, 1, 1, 5), NOT_POSSIBLE);
        says("FULL if there are 20.");
        refuse("with 20", twenty, x -> x.addDoor(7, 0, 1, -1), FULL);
        act("with 19", Museums.doors(19), x -> x.addDoor(7, 0, 1, -1), 19);
        tell("there are 20 then", twenty.then(x -> x.addDoor(7, 0, 1, -1)), x -> x.count(3), 20);
    }

    private void addDoorErrors() {
        Acts three = Museums.rooms(2);
        Acts one = three.then(x -> x.addDoor(0, 1, 1, 5));
        Acts twenty = Museums.doors(20);
        says("UNKNOWN (room, other);");
        refuse("room -1", three, x -> x.addDoor(-1, 1, 1, 0), UNKNOWN);
        refuse("room 3", three, x -> x.addDoor(3, 1, 1, 0), UNKNOWN);
        refuse("other -1", three, x -> x.addDoor(1, -1, 1, 0), UNKNOWN);
        refuse("other 3", three, x -> x.addDoor(1, 3, 1, 0), UNKNOWN);
        refuse("both, which are the same", three, x -> x.addDoor(3, 3, 1, 0), UNKNOWN);
        refuse("ahead of BAD_VALUE by minutes", three, x -> x.addDoor(3, 1, 0, 0), UNKNOWN);
        refuse("ahead of BAD_VALUE by key", three, x -> x.addDoor(1, -1, 1, 8), UNKNOWN);
        refuse("ahead of FULL", twenty, x -> x.addDoor(8, 0, 1, 0), UNKNOWN);
        refuse("other one ahead of FULL", twenty, x -> x.addDoor(0, 8, 1, 0), UNKNOWN);
        says("BAD_VALUE (minutes, key, or both rooms are the same);");
        refuse("minutes 0", three, x -> x.addDoor(0, 1, 0, 0), BAD_VALUE);
        refuse("minutes 10", three, x -> x.addDoor(0, 1, 10, 0), BAD_VALUE);
        refuse("key -2", three, x -> x.addDoor(0, 1, 1, -2), BAD_VALUE);
        refuse("key 8", three, x -> x.addDoor(0, 1, 1, 8), BAD_VALUE);
        refuse("both are the guard room", three, x -> x.addDoor(0, 0, 1, 0), BAD_VALUE);
        refuse("both are the last room", three, x -> x.addDoor(2, 2, 1, 0), BAD_VALUE);
        refuse("minutes ahead of NOT_POSSIBLE", one, x -> x.addDoor(0, 1, 10, 5), BAD_VALUE);
        refuse("key ahead of NOT_POSSIBLE", one, x -> x.addDoor(1, 0, 1, 8), BAD_VALUE);
        refuse("minutes ahead of FULL", twenty, x -> x.addDoor(7, 0, 0, 5), BAD_VALUE);
        refuse("key ahead of FULL", twenty, x -> x.addDoor(7, 0, 1, -2), BAD_VALUE);
        refuse("the same rooms ahead of FULL", twenty, x -> x.addDoor(7, 7, 1, 5), BAD_VALUE);
    }

    private void setBound() {
        promise(4);
        says("Sets the bound of a room. This is an act.");
        act("during a night", NIGHT, x -> x.setBound(1, 9), 5);
        tell("it is told", NIGHT.then(x -> x.setBound(1, 9)), x -> x.room(1, 1), 9);
        tell("no other room's", NIGHT.then(x -> x.setBound(1, 9)), x -> x.room(3, 1), 30);
        says("`room`: a room");
        act("the first that has one", NIGHT, x -> x.setBound(1, 6), 5);
        act("the last", NIGHT, x -> x.setBound(3, 6), 30);
        says("`bound`: 0 to 240");
        act("0", NIGHT, x -> x.setBound(3, 0), 30);
        act("240", NIGHT, x -> x.setBound(3, 240), 30);
        tell("0 is told", NIGHT.then(x -> x.setBound(3, 0)), x -> x.room(3, 1), 0);
        tell("240 is told", NIGHT.then(x -> x.setBound(3, 240)), x -> x.room(3, 1), 240);
        refuseOutside("bound", 0, 240, NIGHT, (x, bound) -> x.setBound(3, bound), BAD_VALUE);
        says("Returns the previous one;");
        act("none", NIGHT, x -> x.setBound(2, 1), 0);
        act("the longest", NIGHT.then(x -> x.setBound(2, 240)), x -> x.setBound(2, 239), 240);
        act("the one that undo gave back", NIGHT.then(x -> x.setBound(3, 7)).then(x -> x.undo()),
            x -> x.setBound(3, 7), 30);
    }

    private void setBoundErrors() {
        says("UNKNOWN;");
        refuseOutside("room", 0, 3, NIGHT, (x, room) -> x.setBound(room, 9), UNKNOWN);
        refuse("ahead of BAD_VALUE", NIGHT, x -> x.setBound(4, 241), UNKNOWN);
        says("BAD_VALUE;");
        refuse("just below", NIGHT, x -> x.setBound(1, -1), BAD_VALUE);
        refuse("just above", NIGHT, x -> x.setBound(1, 241), BAD_VALUE);
        refuse("below, ahead of NOT_POSSIBLE", NIGHT, x -> x.setBound(0, -1), BAD_VALUE);
        refuse("above, ahead of NOT_POSSIBLE", NIGHT, x -> x.setBound(0, 241), BAD_VALUE);
        says("NOT_POSSIBLE for the guard room;");
        refuse("the longest", NIGHT, x -> x.setBound(0, 240), NOT_POSSIBLE);
        refuse("the shortest", NIGHT, x -> x.setBound(0, 1), NOT_POSSIBLE);
        refuse("ahead of NONE", NIGHT, x -> x.setBound(0, 0), NOT_POSSIBLE);
        says("NONE if it is so already.");
        refuse("a bound", NIGHT, x -> x.setBound(1, 5), NONE);
        refuse("no bound", NIGHT, x -> x.setBound(2, 0), NONE);
        refuse("the longest", NIGHT.then(x -> x.setBound(2, 240)), x -> x.setBound(2, 240), NONE);
        act("one less", NIGHT, x -> x.setBound(1, 4), 5);
        act("one more", NIGHT, x -> x.setBound(1, 6), 5);
    }

    private void exclude() {
        promise(5);
        says("Lets two zones exclude one another, or not any more. This is an act.");
        Acts pair = NEW.then(x -> x.exclude(0, 1, true));
        act("exclude", NIGHT, x -> x.exclude(2, 3, true), 1);
        act("not any more", NIGHT, x -> x.exclude(0, 1, false), 0);
        act("not any more, the other way", NIGHT, x -> x.exclude(1, 0, false), 0);
        tell("the first", pair, x -> x.zone(0, 1), 2);
        tell("the other", pair, x -> x.zone(1, 1), 1);
        tell("the first not any more", pair.then(x -> x.exclude(1, 0, false)), x -> x.zone(0, 1), 0);
        tell("the other not any more", pair.then(x -> x.exclude(1, 0, false)), x -> x.zone(1, 1), 0);
        says("`zone`: 0 to 5");
        act("0", NEW, x -> x.exclude(0, 3, true), 1);
        act("5", NEW, x -> x.exclude(5, 3, true), 1);
        refuseOutside("zone", 0, 5, NIGHT, (x, zone) -> x.exclude(zone, 3, true), UNKNOWN);
        says("`other`: 0 to 5");
        act("0", NEW, x -> x.exclude(3, 0, true), 1);
        act("5", NEW, x -> x.exclude(3, 5, true), 1);
        refuseOutside("other", 0, 5, NIGHT, (x, other) -> x.exclude(3, other, true), UNKNOWN);
        says("`is`: whether they exclude one another then");
        tell("true", NIGHT.then(x -> x.exclude(2, 3, true)), x -> x.zone(2, 1), 8);
        tell("false", NIGHT.then(x -> x.exclude(4, 5, false)), x -> x.zone(4, 1), 0);
        says("Returns the number of zones that the first one excludes then;");
        act("the first of both", pair, x -> x.exclude(0, 2, true), 2);
        act("the other of both", pair, x -> x.exclude(2, 0, true), 1);
        act("all five others", pair.then(x -> {
            x.exclude(2, 0, true);
            x.exclude(3, 0, true);
            x.exclude(4, 0, true);
        }), x -> x.exclude(0, 5, true), 5);
        act("none any more", pair, x -> x.exclude(0, 1, false), 0);
        act("one is left", pair.then(x -> x.exclude(0, 5, true)), x -> x.exclude(0, 1, false), 1);
    }

    private void excludeErrors() {
        Acts bothOpen = NEW.then(x -> x.openZone(0)).then(x -> x.openZone(5));
        says("UNKNOWN;");
        refuse("zone -1", NEW, x -> x.exclude(-1, 0, true), UNKNOWN);
        refuse("zone 6", NEW, x -> x.exclude(6, 0, false), UNKNOWN);
        refuse("other -1", NEW, x -> x.exclude(0, -1, false), UNKNOWN);
        refuse("other 6", NEW, x -> x.exclude(0, 6, true), UNKNOWN);
        refuse("ahead of BAD_VALUE, below", NEW, x -> x.exclude(-1, -1, true), UNKNOWN);
        refuse("ahead of BAD_VALUE, above", NEW, x -> x.exclude(6, 6, true), UNKNOWN);
        refuse("ahead of NONE", NEW, x -> x.exclude(0, 6, false), UNKNOWN);
        says("BAD_VALUE if both are the same;");
        refuse("0", NEW, x -> x.exclude(0, 0, true), BAD_VALUE);
        refuse("5", NEW, x -> x.exclude(5, 5, true), BAD_VALUE);
        refuse("ahead of NOT_POSSIBLE", bothOpen, x -> x.exclude(5, 5, true), BAD_VALUE);
        refuse("ahead of NONE", bothOpen, x -> x.exclude(5, 5, false), BAD_VALUE);
        says("NOT_POSSIBLE if they would, and both are open;");
        refuse("both are open", bothOpen, x -> x.exclude(0, 5, true), NOT_POSSIBLE);
        refuse("both are open, turned", bothOpen, x -> x.exclude(5, 0, true), NOT_POSSIBLE);
        act("just the first is open", bothOpen, x -> x.exclude(0, 4, true), 1);
        act("just the other is open", bothOpen, x -> x.exclude(4, 0, true), 1);
        act("none is open", bothOpen, x -> x.exclude(3, 4, true), 1);
        act("one was closed", bothOpen.then(x -> x.closeZone(5)), x -> x.exclude(0, 5, true), 1);
        refuse("they would not, and both are open", bothOpen, x -> x.exclude(0, 5, false), NONE);
        says("NONE if it is so already.");
        refuse("they do", NIGHT, x -> x.exclude(0, 1, true), NONE);
        refuse("they do, turned", NIGHT, x -> x.exclude(1, 0, true), NONE);
        refuse("they do not", NIGHT, x -> x.exclude(0, 2, false), NONE);
        refuse("they do not any more", NIGHT.then(x -> x.exclude(5, 4, false)), x -> x.exclude(4, 5, false), NONE);
    }

    private void openZone() {
        promise(6);
        Acts barred = NEW.then(x -> x.exclude(0, 5, true)).then(x -> x.openZone(5));
        says("Opens a zone. This is an act.");
        act("during a night", NIGHT, x -> x.openZone(2), 3);
        tell("it is open", NIGHT.then(x -> x.openZone(2)), x -> x.zone(2, 0), 1);
        tell("no other one", NIGHT.then(x -> x.openZone(2)), x -> x.zone(3, 0), 0);
        says("`zone`: 0 to 5");
        act("0", NEW, x -> x.openZone(0), 1);
        act("5", NEW, x -> x.openZone(5), 1);
        says("Returns the number of zones that are open then;");
        act("the first", NEW, x -> x.openZone(3), 1);
        act("all six", NEW.then(x -> {
            for (int zone = 0; zone < 5; zone++) {
                x.openZone(zone);
            }
        }), x -> x.openZone(5), 6);
        says("UNKNOWN;");
        refuseOutside("zone", 0, 5, NIGHT, (x, zone) -> x.openZone(zone), UNKNOWN);
        says("NOT_POSSIBLE if a zone that it excludes is open;");
        refuse("the other one of both", barred, x -> x.openZone(0), NOT_POSSIBLE);
        refuse("the first one of both", NEW.then(x -> x.exclude(0, 5, true)).then(x -> x.openZone(0)),
            x -> x.openZone(5), NOT_POSSIBLE);
        act("one that is not excluded", barred, x -> x.openZone(1), 2);
        act("not excluded any more", barred.then(x -> x.exclude(0, 5, false)), x -> x.openZone(0), 2);
        act("closed again", barred.then(x -> x.closeZone(5)), x -> x.openZone(0), 1);
        act("one that excludes one that is closed", barred.then(x -> x.exclude(1, 2, true)), x -> x.openZone(1), 2);
        refuse("one of two that it excludes", barred.then(x -> x.exclude(0, 1, true)),
            x -> x.openZone(0), NOT_POSSIBLE);
        says("NONE if it is open already.");
        refuse("open already", barred, x -> x.openZone(5), NONE);
        act("closed again and so not open", barred.then(x -> x.closeZone(5)), x -> x.openZone(5), 1);
    }

    private void closeZone() {
        promise(7);
        Acts open = Museums.row(1);
        says("Closes a zone. This is an act.");
        act("during a night", NIGHT, x -> x.closeZone(4), 1);
        tell("it is closed", NIGHT.then(x -> x.closeZone(4)), x -> x.zone(4, 0), 0);
        tell("the other one stays open", NIGHT.then(x -> x.closeZone(4)), x -> x.zone(0, 0), 1);
        says("`zone`: 0 to 5");
        act("0", open, x -> x.closeZone(0), 1);
        act("5", open.then(x -> x.openZone(5)), x -> x.closeZone(5), 2);
        says("Returns the number of zones that are open then;");
        act("none", NEW.then(x -> x.openZone(3)), x -> x.closeZone(3), 0);
        act("five", NEW.then(x -> {
            for (int zone = 0; zone < 6; zone++) {
                x.openZone(zone);
            }
        }), x -> x.closeZone(0), 5);
        says("UNKNOWN;");
        refuseOutside("zone", 0, 5, NIGHT, (x, zone) -> x.closeZone(zone), UNKNOWN);
    }

    private void closeZoneErrors() {
        Acts sent = Museums.row(1).then(x -> x.addDoor(0, 2, 3, -1)).then(x -> x.go(0, 2, 5));
        says("NOT_POSSIBLE if a guard stands in a room of it, or walks to one;");
        act("an order alone is no walk", sent, x -> x.closeZone(1), 1);
        refuse("the walk's first minute", sent.then(x -> x.pass(1)), x -> x.closeZone(1), NOT_POSSIBLE);
        refuse("the walk's last minute", sent.then(x -> x.pass(2)), x -> x.closeZone(1), NOT_POSSIBLE);
        refuse("at the end of the walk", sent.then(x -> x.pass(3)), x -> x.closeZone(1), NOT_POSSIBLE);
        refuse("while it stands there", sent.then(x -> x.pass(9)), x -> x.closeZone(1), NOT_POSSIBLE);
        act("another zone", sent.then(x -> x.pass(9)), x -> x.closeZone(0), 1);
        Acts back = sent.then(x -> x.go(0, 0, 0)).then(x -> x.pass(8));
        refuse("just ahead of setting off", back, x -> x.closeZone(1), NOT_POSSIBLE);
        act("just behind setting off", back.then(x -> x.pass(1)), x -> x.closeZone(1), 1);
        refuse("the last of four guards", Museums.row(4).then(x -> x.go(3, 1, 0)).then(x -> x.pass(1)),
            x -> x.closeZone(0), NOT_POSSIBLE);
        refuse("the second room of the zone", NEW.then(x -> {
            x.addRoom(3, 0);
            x.addRoom(3, 0);
            x.addDoor(0, 2, 1, -1);
            x.openZone(3);
            x.addGuard();
            x.go(0, 2, 0);
            x.pass(1);
        }), x -> x.closeZone(3), NOT_POSSIBLE);
        act("guards in the guard room are in no zone", Museums.row(4), x -> x.closeZone(0), 1);
        refuse("ahead of NONE, standing", Museums.row(1).then(x -> {
            x.closeZone(0);
            x.go(0, 1, 0);
            x.pass(1);
        }), x -> x.closeZone(0), NOT_POSSIBLE);
        refuse("ahead of NONE, walking", NIGHT, x -> x.closeZone(2), NOT_POSSIBLE);
        says("NONE if it is closed already.");
        refuse("closed at first", NEW, x -> x.closeZone(0), NONE);
        refuse("closed before", Museums.row(1).then(x -> x.closeZone(1)), x -> x.closeZone(1), NONE);
    }
}
