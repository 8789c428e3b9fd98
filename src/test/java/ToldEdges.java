/** Promises 26 to 33: rooms, doors, zones, guards, orders, keys, works and alarms, as they are told. */
final class ToldEdges extends Edges {
    private static final Acts NEW = Museums.NEW;
    private static final Acts NIGHT = Museums.NIGHT;
    private static final Acts ROW = Museums.row(1);
    private static final Acts WATCHED = Museums.WATCHED;

    @Override
    void run() {
        roomOfHouse();
        roomByMinutes();
        roomWithOthers();
        roomErrors();
        door();
        doorUses();
        zone();
        guardWhere();
        guardWhat();
        orderAt();
        holder();
        work();
        workAlarms();
        alarm();
    }

    private void roomOfHouse() {
        promise(26);
        says("`room`: a room");
        tell("the first", NEW, x -> x.room(0, 1), 0);
        tell("the last", NIGHT, x -> x.room(3, 1), 30);
        tell("the last of twelve", Museums.rooms(10).then(x -> x.addRoom(2, 77)), x -> x.room(11, 1), 77);
        says("`what`: 0 for its zone (NONE for the guard room),");
        tell("the guard room", NIGHT, x -> x.room(0, 0), NONE);
        tell("zone 0", ROW, x -> x.room(1, 0), 0);
        tell("zone 5", Museums.rooms(6), x -> x.room(6, 0), 5);
        says("1 for its bound,");
        tell("the guard room", NIGHT, x -> x.room(0, 1), 0);
        tell("none", NIGHT, x -> x.room(2, 1), 0);
        tell("240", NEW.then(x -> x.addRoom(0, 240)), x -> x.room(1, 1), 240);
        tell("set", NIGHT.then(x -> x.setBound(1, 239)), x -> x.room(1, 1), 239);
    }

    private void roomByMinutes() {
        says("2 for the minutes in a row for which it has been watched until now,");
        tell("at first", ROW, x -> x.room(0, 2), 0);
        tell("it goes on", WATCHED, x -> x.room(1, 2), 9);
        tell("not any more", WATCHED, x -> x.room(0, 2), 0);
        tell("never", WATCHED, x -> x.room(2, 2), 0);
        tell("a minute in which the guard came is none", ROW.then(x -> x.go(0, 1, 0)).then(x -> x.pass(1)),
            x -> x.room(1, 2), 0);
        tell("the first minute behind it", ROW.then(x -> x.go(0, 1, 0)).then(x -> x.pass(2)), x -> x.room(1, 2), 1);
        tell("all the night", ROW.then(Museums.pass(720)), x -> x.room(0, 2), 720);
        tell("by two guards in turn", Museums.row(2).then(x -> {
            x.pass(2);
            x.go(0, 1, 0);
            x.pass(3);
        }), x -> x.room(0, 2), 5);
        says("3 for those for which it has not,");
        tell("at first", ROW, x -> x.room(1, 3), 0);
        tell("it goes on", WATCHED, x -> x.room(0, 3), 10);
        tell("not any more", WATCHED, x -> x.room(1, 3), 0);
        tell("all the night", ROW.then(Museums.pass(720)), x -> x.room(1, 3), 720);
        tell("the minute in which the guard leaves", WATCHED.then(x -> x.go(0, 2, 0)).then(x -> x.pass(1)),
            x -> x.room(1, 3), 1);
        tell("a room that was added this minute", WATCHED.then(x -> x.addRoom(0, 0)), x -> x.room(3, 3), 0);
        tell("a room that was added a minute before", WATCHED.then(x -> x.addRoom(0, 0)).then(x -> x.pass(1)),
            x -> x.room(3, 3), 1);
        says("4 for its longest gap this night (with the one that goes on),");
        tell("at first", ROW, x -> x.room(1, 4), 0);
        tell("one that is over", WATCHED, x -> x.room(1, 4), 7);
        tell("the one that goes on", WATCHED, x -> x.room(0, 4), 10);
        tell("never watched", WATCHED, x -> x.room(2, 4), 20);
        tell("always watched", ROW.then(x -> x.pass(60)), x -> x.room(0, 4), 0);
        Acts leaves = WATCHED.then(x -> x.go(0, 2, 0));
        tell("the one that goes on is just shorter", leaves.then(x -> x.pass(6)), x -> x.room(1, 4), 7);
        tell("just as long", leaves.then(x -> x.pass(7)), x -> x.room(1, 4), 7);
        tell("just longer", leaves.then(x -> x.pass(8)), x -> x.room(1, 4), 8);
        tell("all the night", ROW.then(Museums.pass(720)), x -> x.room(1, 4), 720);
        says("5 for the minutes of this night in which it was watched,");
        tell("at first", ROW, x -> x.room(0, 5), 0);
        tell("twice", WATCHED, x -> x.room(1, 5), 12);
        tell("not any more", WATCHED, x -> x.room(0, 5), 5);
        tell("never", WATCHED, x -> x.room(2, 5), 0);
        tell("by four guards is once", Museums.row(4).then(x -> x.pass(9)), x -> x.room(0, 5), 9);
        tell("all the night", ROW.then(Museums.pass(720)), x -> x.room(0, 5), 720);
        tell("of the next night", WATCHED.then(x -> x.nextNight()).then(x -> x.pass(2)), x -> x.room(0, 5), 2);
    }

    private void roomWithOthers() {
        says("6 for the guards who stand in it,");
        tell("none", NEW, x -> x.room(0, 6), 0);
        tell("all four", Museums.row(4), x -> x.room(0, 6), 4);
        tell("those who walk do not stand", NIGHT, x -> x.room(0, 6), 1);
        tell("nor in the room to which they walk", NIGHT, x -> x.room(3, 6), 0);
        tell("one who has come", NIGHT.then(x -> x.pass(2)), x -> x.room(3, 6), 1);
        says("7 for the works in it (those taken away not),");
        tell("none", ROW, x -> x.room(1, 7), 0);
        tell("two", NIGHT, x -> x.room(1, 7), 2);
        tell("one of them taken away", NIGHT.then(x -> x.takeAway(0)), x -> x.room(1, 7), 1);
        tell("the only one taken away", NIGHT, x -> x.room(3, 7), 0);
        tell("all ten", ROW.then(x -> {
            for (int work = 0; work < 10; work++) {
                x.addWork(1, 2, 0);
            }
        }), x -> x.room(2, 7), 10);
        Acts moved = ROW.then(x -> {
            x.addWork(1, 1, 9);
            x.go(0, 1, 0);
            x.pass(1);
            x.moveWork(0, 2);
        });
        tell("moved away", moved, x -> x.room(1, 7), 0);
        tell("moved there", moved, x -> x.room(2, 7), 1);
        tell("the guard room", NIGHT, x -> x.room(0, 7), 0);
        says("8 for the alarms of it that are noted and not cleared");
        tell("none", ROW, x -> x.room(1, 8), 0);
        tell("two, beside one that is cleared", NIGHT, x -> x.room(1, 8), 2);
        tell("of another room", NIGHT, x -> x.room(2, 8), 1);
        tell("none of a room without any", NIGHT, x -> x.room(3, 8), 0);
        tell("the last one is cleared", NIGHT.then(x -> x.pass(1)).then(x -> {
            x.clearAlarm(1, 2);
            x.clearAlarm(3, 2);
        }), x -> x.room(1, 8), 0);
        tell("lost ones are not noted", Museums.crowded(5), x -> x.room(1, 8), 40);
        tell("nor is another one when one is cleared", Museums.crowded(5).then(x -> {
            x.go(0, 1, 0);
            x.pass(1);
            x.clearAlarm(0, 0);
            x.pass(1);
        }), x -> x.room(1, 8), 39);
    }

    private void roomErrors() {
        says("Returns the number; UNKNOWN; BAD_VALUE.");
        refuseOutside("room", 0, 3, NIGHT, (x, room) -> x.room(room, 0), UNKNOWN);
        refuse("no room 1 at first", NEW, x -> x.room(1, 0), UNKNOWN);
        refuse("no room 12", Museums.rooms(11), x -> x.room(12, 0), UNKNOWN);
        refuseOutside("what", 0, 8, NIGHT, (x, what) -> x.room(1, what), BAD_VALUE);
        refuseOutside("what of the guard room", 0, 8, NIGHT, (x, what) -> x.room(0, what), BAD_VALUE);
        refuse("UNKNOWN ahead of BAD_VALUE, below", NIGHT, x -> x.room(-1, -1), UNKNOWN);
        refuse("UNKNOWN ahead of BAD_VALUE, above", NIGHT, x -> x.room(4, 9), UNKNOWN);
    }

    private void door() {
        promise(27);
        says("`door`: a door");
        tell("the first", NIGHT, x -> x.door(0, 1), 1);
        tell("the last", NIGHT, x -> x.door(2, 2), 9);
        tell("the last of twenty", Museums.doors(20), x -> x.door(19, 0), 6);
        says("`what`: 0 for one room, 1 for the other one (as they were given),");
        tell("one, the lesser", NIGHT, x -> x.door(1, 0), 1);
        tell("other, the greater", NIGHT, x -> x.door(1, 1), 2);
        tell("one, the greater", NIGHT, x -> x.door(2, 0), 3);
        tell("other, the lesser", NIGHT, x -> x.door(2, 1), 0);
        says("2 for its minutes,");
        tell("1", NIGHT, x -> x.door(0, 2), 1);
        tell("9", NIGHT, x -> x.door(2, 2), 9);
        tell("9 while a guard walks through it", NIGHT.then(x -> x.pass(1)), x -> x.door(2, 2), 9);
        says("3 for its key (NONE if it has none),");
        tell("none", NIGHT, x -> x.door(0, 3), NONE);
        tell("3", NIGHT, x -> x.door(1, 3), 3);
        tell("0", ROW.then(x -> x.addDoor(0, 2, 1, 0)), x -> x.door(2, 3), 0);
        tell("7", ROW.then(x -> x.addDoor(0, 2, 1, 7)), x -> x.door(2, 3), 7);
    }

    private void doorUses() {
        says("4 for how often a guard has set off through it, in all nights");
        tell("never", ROW, x -> x.door(0, 4), 0);
        tell("not by an order alone", ROW.then(x -> x.go(0, 1, 0)), x -> x.door(0, 4), 0);
        tell("in the minute of setting off", ROW.then(x -> x.addDoor(0, 2, 9, -1)).then(x -> x.go(0, 2, 0))
            .then(x -> x.pass(1)), x -> x.door(2, 4), 1);
        tell("once at the end of the walk", ROW.then(x -> x.addDoor(0, 2, 9, -1)).then(x -> x.go(0, 2, 0))
            .then(x -> x.pass(9)), x -> x.door(2, 4), 1);
        tell("both ways", WATCHED, x -> x.door(0, 4), 3);
        tell("no other door", WATCHED, x -> x.door(1, 4), 0);
        tell("two guards at once", Museums.row(2).then(x -> x.go(0, 1, 0)).then(x -> x.go(1, 1, 0))
            .then(x -> x.pass(1)), x -> x.door(0, 4), 2);
        tell("not by a halt without its key", ROW.then(x -> x.addDoor(0, 2, 1, 6)).then(x -> x.go(0, 2, 0))
            .then(x -> x.pass(1)), x -> x.door(2, 4), 0);
        tell("in two nights", WATCHED.then(x -> x.nextNight()).then(x -> x.go(0, 1, 0)).then(x -> x.pass(1)),
            x -> x.door(0, 4), 4);
        tell("not by what was undone", WATCHED.then(x -> x.undo()), x -> x.door(0, 4), 0);
        tell("not by what is foretold", ROW.then(x -> x.go(0, 1, 0)).then(x -> x.alarmsIn(9)), x -> x.door(0, 4), 0);
        says("Returns the number; UNKNOWN; BAD_VALUE.");
        refuseOutside("door", 0, 2, NIGHT, (x, door) -> x.door(door, 0), UNKNOWN);
        refuse("no door 20", Museums.doors(20), x -> x.door(20, 0), UNKNOWN);
        refuseOutside("what", 0, 4, NIGHT, (x, what) -> x.door(1, what), BAD_VALUE);
        refuse("UNKNOWN ahead of BAD_VALUE, below", NIGHT, x -> x.door(-1, -1), UNKNOWN);
        refuse("UNKNOWN ahead of BAD_VALUE, above", NIGHT, x -> x.door(3, 5), UNKNOWN);
    }

    private void zone() {
        promise(28);
        says("`zone`: 0 to 5");
        tell("0", NIGHT, x -> x.zone(0, 0), 1);
        tell("5", NIGHT, x -> x.zone(5, 1), 16);
        says("`what`: 0 for whether it is open (1, otherwise 0),");
        tell("open", NIGHT, x -> x.zone(4, 0), 1);
        tell("closed", NIGHT, x -> x.zone(1, 0), 0);
        tell("closed again", NIGHT.then(x -> x.closeZone(4)), x -> x.zone(4, 0), 0);
        says("1 for the zones that it excludes (as bits),");
        tell("none", NIGHT, x -> x.zone(2, 1), 0);
        tell("the least", NIGHT, x -> x.zone(1, 1), 1);
        tell("the greatest", NIGHT, x -> x.zone(4, 1), 32);
        tell("all others", NEW.then(x -> {
            for (int zone = 1; zone < 6; zone++) {
                x.exclude(zone, 0, true);
            }
        }), x -> x.zone(0, 1), 62);
        says("2 for its rooms,");
        tell("none", NIGHT, x -> x.zone(5, 2), 0);
        tell("one; the guard room is in no zone", NIGHT, x -> x.zone(0, 2), 1);
        tell("two", Museums.rooms(11), x -> x.zone(4, 2), 2);
        tell("all eleven", NEW.then(x -> {
            for (int room = 1; room < 12; room++) {
                x.addRoom(5, 0);
            }
        }), x -> x.zone(5, 2), 11);
        says("3 for the guards who stand in rooms of it,");
        tell("those in the guard room do not", Museums.row(4), x -> x.zone(0, 3), 0);
        tell("one who walks to it does not", NIGHT, x -> x.zone(2, 3), 0);
        tell("one who has come", NIGHT.then(x -> x.pass(2)), x -> x.zone(2, 3), 1);
        tell("one in each of two rooms", NEW.then(x -> {
            Museums.guards(4).on(x);
            x.addRoom(3, 0);
            x.addRoom(3, 0);
            x.addDoor(0, 1, 1, -1);
            x.addDoor(0, 2, 1, -1);
            x.go(0, 1, 0);
            x.go(3, 2, 0);
            x.pass(1);
        }), x -> x.zone(3, 3), 2);
        tell("all four", Museums.row(4).then(x -> {
            for (int guard = 0; guard < 4; guard++) {
                x.go(guard, 1, 0);
            }
            x.pass(1);
        }), x -> x.zone(0, 3), 4);
        says("4 for whether openZone() would open it now (1, otherwise 0)");
        tell("it would", NIGHT, x -> x.zone(2, 4), 1);
        tell("open already", NIGHT, x -> x.zone(0, 4), 0);
        tell("excluded by an open one", NIGHT, x -> x.zone(1, 4), 0);
        tell("excluded by an open one, the greatest", NIGHT, x -> x.zone(5, 4), 0);
        tell("excluded by one that was closed", NIGHT.then(x -> x.closeZone(4)), x -> x.zone(5, 4), 1);
        tell("not excluded any more", NIGHT.then(x -> x.exclude(0, 1, false)), x -> x.zone(1, 4), 1);
        says("Returns the number; UNKNOWN; BAD_VALUE.");
        refuseOutside("zone", 0, 5, NIGHT, (x, zone) -> x.zone(zone, 0), UNKNOWN);
        refuseOutside("what", 0, 4, NIGHT, (x, what) -> x.zone(1, what), BAD_VALUE);
        refuse("UNKNOWN ahead of BAD_VALUE, below", NIGHT, x -> x.zone(-1, -1), UNKNOWN);
        refuse("UNKNOWN ahead of BAD_VALUE, above", NIGHT, x -> x.zone(6, 5), UNKNOWN);
    }

    private void guardWhere() {
        promise(29);
        Acts far = ROW.then(x -> x.addDoor(0, 2, 9, -1)).then(x -> x.go(0, 2, 4));
        says("`guard`: a guard");
        tell("the first", NIGHT, x -> x.guard(0, 1), 2);
        tell("the last", NIGHT, x -> x.guard(2, 4), 1);
        tell("the last of four", Museums.guards(4), x -> x.guard(3, 0), 0);
        says("`what`: 0 for the room in which the guard stands (NONE while walking),");
        tell("ahead of the walk", far, x -> x.guard(0, 0), 0);
        tell("its first minute", far.then(x -> x.pass(1)), x -> x.guard(0, 0), NONE);
        tell("its last minute", far.then(x -> x.pass(8)), x -> x.guard(0, 0), NONE);
        tell("behind it", far.then(x -> x.pass(9)), x -> x.guard(0, 0), 2);
        says("1 for the room to which the guard walks (NONE while standing),");
        tell("ahead of the walk", far, x -> x.guard(0, 1), NONE);
        tell("its first minute", far.then(x -> x.pass(1)), x -> x.guard(0, 1), 2);
        tell("its last minute", far.then(x -> x.pass(8)), x -> x.guard(0, 1), 2);
        tell("behind it", far.then(x -> x.pass(9)), x -> x.guard(0, 1), NONE);
        tell("to the guard room", far.then(x -> x.go(0, 0, 0)).then(x -> x.pass(14)), x -> x.guard(0, 1), 0);
        says("2 for the minutes left of the walk (NONE likewise),");
        tell("ahead of the walk", far, x -> x.guard(0, 2), NONE);
        tell("its first minute", far.then(x -> x.pass(1)), x -> x.guard(0, 2), 8);
        tell("its last minute", far.then(x -> x.pass(8)), x -> x.guard(0, 2), 1);
        tell("behind it", far.then(x -> x.pass(9)), x -> x.guard(0, 2), NONE);
        says("3 for the minutes left to stay (0 while walking),");
        tell("at first", far, x -> x.guard(0, 3), 0);
        tell("while walking", far.then(x -> x.pass(8)), x -> x.guard(0, 3), 0);
        tell("behind the walk", far.then(x -> x.pass(9)), x -> x.guard(0, 3), 4);
        tell("the last", far.then(x -> x.pass(12)), x -> x.guard(0, 3), 1);
        tell("none left", far.then(x -> x.pass(13)), x -> x.guard(0, 3), 0);
        tell("still none left", far.then(x -> x.pass(14)), x -> x.guard(0, 3), 0);
        tell("99", ROW.then(x -> x.go(0, 1, 99)).then(x -> x.pass(1)), x -> x.guard(0, 3), 99);
    }

    private void guardWhat() {
        says("4 for the orders,");
        tell("none", ROW, x -> x.guard(0, 4), 0);
        tell("twelve", ROW.then(x -> {
            for (int order = 0; order < 12; order++) {
                x.go(0, 1, 0);
            }
        }), x -> x.guard(0, 4), 12);
        tell("the one by which the guard walks is removed", NIGHT, x -> x.guard(0, 4), 0);
        says("5 for the keys (as bits),");
        tell("none", NIGHT, x -> x.guard(2, 5), 0);
        tell("the least", NIGHT, x -> x.guard(1, 5), 1);
        tell("the greatest", NIGHT.then(x -> x.takeKey(2, 7)), x -> x.guard(2, 5), 128);
        tell("two, while walking", NIGHT, x -> x.guard(0, 5), 40);
        says("6 for the halts this night,");
        Acts halted = ROW.then(x -> x.go(0, 0, 0)).then(x -> x.go(0, 1, 0)).then(x -> x.pass(3));
        tell("none", NIGHT, x -> x.guard(0, 6), 0);
        tell("one, though two orders are dropped", halted, x -> x.guard(0, 6), 1);
        tell("two", halted.then(x -> x.go(0, 2, 0)).then(x -> x.pass(1)), x -> x.guard(0, 6), 2);
        tell("none by stop", ROW.then(x -> x.go(0, 1, 0)).then(x -> x.stop(0)), x -> x.guard(0, 6), 0);
        tell("none of another guard", halted.then(x -> x.addGuard()), x -> x.guard(1, 6), 0);
        tell("none in the next night", halted.then(x -> x.nextNight()), x -> x.guard(0, 6), 0);
        says("7 for the rooms at which the guard has arrived this night (each time)");
        tell("none; the guard room at first does not count", ROW.then(x -> x.pass(9)), x -> x.guard(0, 7), 0);
        tell("three times, a room twice", WATCHED, x -> x.guard(0, 7), 3);
        tell("not when setting off", NIGHT, x -> x.guard(1, 7), 0);
        tell("at the end of the walk", NIGHT.then(x -> x.pass(2)), x -> x.guard(1, 7), 1);
        tell("none in the next night", WATCHED.then(x -> x.nextNight()), x -> x.guard(0, 7), 0);
        tell("none by a halt", halted, x -> x.guard(0, 7), 0);
        says("Returns the number; UNKNOWN; BAD_VALUE.");
        refuseOutside("guard", 0, 2, NIGHT, (x, guard) -> x.guard(guard, 0), UNKNOWN);
        refuse("no guard 4", Museums.guards(4), x -> x.guard(4, 0), UNKNOWN);
        refuseOutside("what", 0, 7, NIGHT, (x, what) -> x.guard(1, what), BAD_VALUE);
        refuse("UNKNOWN ahead of BAD_VALUE, below", NIGHT, x -> x.guard(-1, -1), UNKNOWN);
        refuse("UNKNOWN ahead of BAD_VALUE, above", NIGHT, x -> x.guard(3, 8), UNKNOWN);
    }

    private void orderAt() {
        promise(30);
        Acts twelve = Museums.rooms(11).then(Museums.guards(2)).then(x -> {
            for (int order = 0; order < 12; order++) {
                x.go(1, order, 99 - order);
            }
        });
        says("`guard`: a guard");
        tell("the first", NIGHT.then(x -> x.go(0, 1, 1)), x -> x.orderAt(0, 0), 101);
        tell("the last", NIGHT, x -> x.orderAt(2, 0), 103);
        says("`place`: a place among the guard's orders, from 0");
        tell("the first", twelve, x -> x.orderAt(1, 0), 99);
        tell("the last", twelve, x -> x.orderAt(1, 11), 1188);
        says("Returns 100 * room + stay;");
        tell("the least", NIGHT, x -> x.orderAt(1, 0), 0);
        tell("the greatest", Museums.rooms(11).then(Museums.guards(1)).then(x -> x.go(0, 11, 99)),
            x -> x.orderAt(0, 0), 1199);
        says("UNKNOWN;");
        refuseOutside("guard", 0, 2, NIGHT, (x, guard) -> x.orderAt(guard, 0), UNKNOWN);
        refuse("ahead of BAD_VALUE", NIGHT, x -> x.orderAt(3, -1), UNKNOWN);
        refuse("ahead of NONE", NIGHT, x -> x.orderAt(3, 12), UNKNOWN);
        says("BAD_VALUE if place is negative;");
        refuse("-1", twelve, x -> x.orderAt(1, -1), BAD_VALUE);
        refuse("the least", twelve, x -> x.orderAt(1, LEAST), BAD_VALUE);
        refuse("without orders, ahead of NONE", twelve, x -> x.orderAt(0, -1), BAD_VALUE);
        says("NONE if there are not so many.");
        refuse("no orders", twelve, x -> x.orderAt(0, 0), NONE);
        refuse("behind the only one", NIGHT, x -> x.orderAt(2, 1), NONE);
        refuse("behind the twelfth", twelve, x -> x.orderAt(1, 12), NONE);
        refuse("the greatest", twelve, x -> x.orderAt(1, GREATEST), NONE);
        refuse("behind the last one when one is removed", NIGHT.then(x -> x.pass(1)), x -> x.orderAt(2, 0), NONE);
        refuse("dropped ones", twelve.then(x -> x.stop(1)), x -> x.orderAt(1, 0), NONE);
    }

    private void holder() {
        promise(31);
        says("`key`: 0 to 7");
        tell("0", NIGHT, x -> x.holder(0), 1);
        tell("7", NIGHT.then(x -> x.takeKey(2, 7)), x -> x.holder(7), 2);
        says("Returns the guard who has it;");
        tell("the first guard", NIGHT, x -> x.holder(5), 0);
        tell("the last guard", Museums.row(4).then(x -> x.takeKey(3, 6)), x -> x.holder(6), 3);
        tell("the one to whom it was handed", Museums.row(2).then(x -> x.takeKey(0, 6)).then(x -> x.handKey(0, 1, 6)),
            x -> x.holder(6), 1);
        says("UNKNOWN;");
        refuseOutside("key", 0, 7, NIGHT, (x, key) -> x.holder(key), UNKNOWN);
        says("NONE if it is in the cupboard.");
        refuse("at first", NEW, x -> x.holder(0), NONE);
        refuse("the last key at first", NEW, x -> x.holder(7), NONE);
        refuse("brought back", ROW.then(x -> x.takeKey(0, 6)).then(x -> x.bringKey(0, 6)), x -> x.holder(6), NONE);
        refuse("undone", ROW.then(x -> x.takeKey(0, 6)).then(x -> x.undo()), x -> x.holder(6), NONE);
    }

    private void work() {
        promise(32);
        Acts moved = ROW.then(x -> {
            x.addWork(2, 1, 0);
            x.addWork(1, 2, 99);
            x.go(0, 1, 0);
            x.pass(1);
        });
        says("`work`: a work");
        tell("the first", NIGHT, x -> x.work(0, 1), 1);
        tell("the last", NIGHT, x -> x.work(3, 1), 3);
        tell("the last of ten", ROW.then(x -> {
            for (int work = 0; work < 10; work++) {
                x.addWork(1, 1, work);
            }
        }), x -> x.work(9, 2), 9);
        says("`what`: 0 for its kind,");
        tell("0", NIGHT, x -> x.work(0, 0), 0);
        tell("2", NIGHT, x -> x.work(2, 0), 2);
        says("1 for its room,");
        tell("the room", moved, x -> x.work(1, 1), 2);
        tell("moved", moved.then(x -> x.moveWork(0, 2)), x -> x.work(0, 1), 2);
        tell("taken away", NIGHT, x -> x.work(3, 1), 3);
        says("2 for its limit,");
        tell("0", NIGHT, x -> x.work(0, 2), 0);
        tell("99", NIGHT, x -> x.work(3, 2), 99);
        says("3 for its state (0 fine, 1 troubled, 2 taken away),");
        tell("fine at first", NIGHT.then(x -> x.addWork(2, 3, 0)), x -> x.work(4, 3), 0);
        tell("fine", NIGHT, x -> x.work(1, 3), 0);
        tell("troubled", NIGHT, x -> x.work(2, 3), 1);
        tell("taken away", NIGHT, x -> x.work(3, 3), 2);
        tell("taken away when it was troubled", NIGHT.then(x -> x.takeAway(2)), x -> x.work(2, 3), 2);
        tell("taken away and a minute passed", NIGHT.then(x -> x.takeAway(2)).then(x -> x.pass(1)),
            x -> x.work(2, 3), 2);
    }

    private void workAlarms() {
        says("4 for the alarms that there were because of it (lost ones, too)");
        tell("none", NIGHT, x -> x.work(3, 4), 0);
        tell("one", NIGHT, x -> x.work(2, 4), 1);
        tell("two", NIGHT, x -> x.work(0, 4), 2);
        tell("none more while it is troubled", NIGHT.then(x -> x.stop(2)).then(x -> x.pass(1)), x -> x.work(0, 4), 2);
        tell("the last that is noted", Museums.crowded(4), x -> x.work(9, 4), 4);
        tell("a lost one", Museums.crowded(5), x -> x.work(0, 4), 5);
        tell("taken away", NIGHT.then(x -> x.takeAway(0)), x -> x.work(0, 4), 2);
        tell("none by other causes", ROW.then(x -> {
            x.setBound(1, 1);
            x.addWork(1, 1, 50);
            x.pass(2);
        }), x -> x.work(0, 4), 0);
        says("Returns the number; UNKNOWN; BAD_VALUE.");
        refuseOutside("work", 0, 3, NIGHT, (x, work) -> x.work(work, 0), UNKNOWN);
        refuse("no work 10", Museums.crowded(0), x -> x.work(10, 0), UNKNOWN);
        refuseOutside("what", 0, 4, NIGHT, (x, what) -> x.work(1, what), BAD_VALUE);
        refuse("UNKNOWN ahead of BAD_VALUE, below", NIGHT, x -> x.work(-1, -1), UNKNOWN);
        refuse("UNKNOWN ahead of BAD_VALUE, above", NIGHT, x -> x.work(4, 5), UNKNOWN);
    }

    private void alarm() {
        promise(33);
        Acts three = Museums.ALARMS;
        says("`alarm`: an alarm");
        tell("the first", three, x -> x.alarm(0, 1), 1);
        tell("the last", three, x -> x.alarm(2, 1), 1);
        tell("the last of forty", Museums.crowded(4), x -> x.alarm(39, 2), 10);
        says("`what`: 0 for its cause,");
        tell("0", three, x -> x.alarm(0, 0), 0);
        tell("1", three, x -> x.alarm(1, 0), 1);
        tell("2", three, x -> x.alarm(2, 0), 2);
        says("1 for its room,");
        tell("of the cause 0", three, x -> x.alarm(0, 1), 1);
        tell("of the cause 1", three, x -> x.alarm(1, 1), 2);
        tell("of the cause 2", three, x -> x.alarm(2, 1), 1);
        says("2 for its minute,");
        tell("the first minute", three, x -> x.alarm(0, 2), 0);
        tell("the second minute", three, x -> x.alarm(2, 2), 1);
        tell("the last minute of a night", ROW.then(Museums.pass(719)).then(x -> x.addWork(2, 1, 0))
            .then(x -> x.pass(1)), x -> x.alarm(0, 2), 719);
        says("3 for the guard who cleared it (NONE if it is not cleared),");
        tell("not cleared", three, x -> x.alarm(0, 3), NONE);
        tell("guard 0", three.then(x -> x.clearAlarm(0, 0)), x -> x.alarm(0, 3), 0);
        tell("not cleared beside one that is", three.then(x -> x.clearAlarm(0, 0)), x -> x.alarm(2, 3), NONE);
        Acts again = three.then(x -> x.clearAlarm(0, 0)).then(x -> x.nextNight()).then(x -> x.addWork(2, 1, 0))
            .then(x -> x.pass(1));
        tell("not cleared, in place of one of the night before that was", again, x -> x.alarm(0, 3), NONE);
        says("4 for the minute in which it was cleared (NONE likewise)");
        tell("not cleared, in place of one of the night before that was", again, x -> x.alarm(0, 4), NONE);
        tell("not cleared", three, x -> x.alarm(0, 4), NONE);
        tell("cleared", three.then(x -> x.clearAlarm(0, 0)), x -> x.alarm(0, 4), 2);
        tell("cleared some minutes before", three.then(x -> x.clearAlarm(0, 0)).then(x -> x.pass(9)),
            x -> x.alarm(0, 4), 2);
        says("Returns the number; UNKNOWN; BAD_VALUE.");
        refuseOutside("alarm", 0, 2, three, (x, alarm) -> x.alarm(alarm, 0), UNKNOWN);
        refuse("a lost one", Museums.crowded(5), x -> x.alarm(40, 0), UNKNOWN);
        refuseOutside("what", 0, 4, three, (x, what) -> x.alarm(1, what), BAD_VALUE);
        refuse("UNKNOWN ahead of BAD_VALUE, below", three, x -> x.alarm(-1, -1), UNKNOWN);
        refuse("UNKNOWN ahead of BAD_VALUE, above", three, x -> x.alarm(3, 5), UNKNOWN);
    }
}
