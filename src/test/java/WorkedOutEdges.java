/** Promises 34 to 39: stays, gaps, ways, what is due, alarms foretold, and counts. */
final class WorkedOutEdges extends Edges {
    private static final Acts NEW = Museums.NEW;
    private static final Acts NIGHT = Museums.NIGHT;
    private static final Acts ROW = Museums.row(1);
    private static final Acts WATCHED = Museums.WATCHED;
    /** Rooms 1 to 11 one behind the other, nine minutes each; the door between 5 and 6 has the key 7. */
    private static final Acts LONG_ROW = x -> {
        for (int room = 1; room <= 11; room++) {
            x.addRoom(0, 0);
            x.addDoor(room - 1, room, 9, room == 6 ? 7 : -1);
        }
        x.addGuard();
        x.addGuard();
    };

    @Override
    void run() {
        stay();
        stayFrom();
        stayOrder();
        stayErrors();
        gap();
        gapOfAddedRoom();
        gapErrors();
        way();
        wayWalking();
        wayErrors();
        firstDue();
        firstDueNone();
        alarmsIn();
        alarmsInSteps();
        alarmsInErrors();
        countOfHouse();
        countOfNight();
        countErrors();
    }

    private void dueStay(String test, Acts before, int back, int guard, int room, int from, int until) {
        tell(test + ": guard", before, x -> x.stay(back, 0), guard);
        tell(test + ": room", before, x -> x.stay(back, 1), room);
        tell(test + ": from", before, x -> x.stay(back, 2), from);
        tell(test + ": until", before, x -> x.stay(back, 3), until);
    }

    private void stay() {
        promise(34);
        says("Looks back at the stays of this night that are over: a guard stood in a room from a minute on up to "
            + "another one (this one not), in which the guard set off.");
        dueStay("the latest", WATCHED, 0, 0, 0, 5, 10);
        dueStay("the one before", WATCHED, 1, 0, 1, 1, 4);
        dueStay("the first", WATCHED, 2, 0, 0, 0, 0);
        refuse("one that goes on is none", ROW.then(x -> x.pass(60)), x -> x.stay(0, 0), NONE);
        refuse("nor is it in the last minute ahead of setting off", ROW.then(x -> x.pass(9)).then(x -> x.go(0, 1, 0)),
            x -> x.stay(0, 0), NONE);
        dueStay("it is over when the guard sets off", ROW.then(x -> x.addDoor(0, 2, 9, -1)).then(x -> x.pass(9))
            .then(x -> x.go(0, 2, 0)).then(x -> x.pass(1)), 0, 0, 0, 0, 9);
        refuse("of this night, not of the one before", WATCHED.then(x -> x.nextNight()), x -> x.stay(0, 0), NONE);
        dueStay("of a later night", WATCHED.then(x -> x.nextNight()).then(x -> x.pass(2)).then(x -> x.go(0, 1, 0))
            .then(x -> x.pass(1)), 0, 0, 0, 0, 2);
    }

    private void stayFrom() {
        says("(The first one is that behind the minute in which the walk to the room ended, or 0, or the one in "
            + "which the guard was added. Both can be the same. A halt ends no stay.)");
        dueStay("behind the walk", WATCHED, 1, 0, 1, 1, 4);
        dueStay("behind a longer walk", ROW.then(x -> {
            x.addDoor(0, 2, 9, -1);
            x.go(0, 2, 3);
            x.go(0, 1, 0);
            x.pass(13);
        }), 0, 0, 2, 9, 12);
        dueStay("0", ROW.then(x -> x.pass(7)).then(x -> x.go(0, 1, 0)).then(x -> x.pass(1)), 0, 0, 0, 0, 7);
        dueStay("the minute in which the guard was added", Museums.row(0).then(x -> x.pass(7)).then(x -> x.addGuard())
            .then(x -> x.pass(2)).then(x -> x.go(0, 1, 0)).then(x -> x.pass(1)), 0, 0, 0, 7, 9);
        dueStay("which is 0 in the next night", Museums.row(0).then(x -> {
            x.pass(7);
            x.addGuard();
            x.nextNight();
            x.pass(2);
            x.go(0, 1, 0);
            x.pass(1);
        }), 0, 0, 0, 0, 2);
        dueStay("the same at first", WATCHED, 2, 0, 0, 0, 0);
        dueStay("the same behind a walk", ROW.then(x -> {
            x.go(0, 1, 0);
            x.go(0, 2, 0);
            x.pass(2);
        }), 0, 0, 1, 1, 1);
        dueStay("the same when it was just added", Museums.row(0).then(x -> x.pass(7)).then(x -> x.addGuard())
            .then(x -> x.go(0, 1, 0)).then(x -> x.pass(1)), 0, 0, 0, 7, 7);
        Acts halted = WATCHED.then(x -> x.go(0, 1, 0)).then(x -> x.pass(3));
        dueStay("a halt ends none", halted, 0, 0, 0, 5, 10);
        dueStay("nor does it begin one", halted.then(x -> x.go(0, 2, 0)).then(x -> x.pass(1)), 0, 0, 1, 11, 23);
        dueStay("nor does stop", WATCHED.then(x -> x.stop(0)).then(x -> x.go(0, 2, 0))
            .then(x -> x.pass(1)), 0, 0, 1, 11, 20);
        dueStay("up to the last minute", ROW.then(Museums.pass(719)).then(x -> x.go(0, 1, 0)).then(x -> x.pass(1)),
            0, 0, 0, 0, 719);
    }

    private void stayOrder() {
        Acts four = Museums.row(4).then(x -> {
            x.go(3, 1, 0);
            x.go(1, 1, 0);
            x.go(2, 1, 0);
            x.pass(1);
            x.go(0, 1, 0);
            x.pass(1);
        });
        says("`back`: 0 for the latest one (of several that ended in one minute the one with the greatest guard), "
            + "1 for the one before, and so on");
        dueStay("the latest", four, 0, 0, 0, 0, 1);
        dueStay("the greatest guard", four, 1, 3, 0, 0, 0);
        dueStay("the one between", four, 2, 2, 0, 0, 0);
        dueStay("the least guard", four, 3, 1, 0, 0, 0);
        dueStay("the greatest guard of two in another room", Museums.row(2).then(x -> {
            x.go(0, 1, 4);
            x.go(0, 0, 0);
            x.go(1, 1, 2);
            x.pass(2);
            x.go(1, 2, 0);
            x.stop(0);
            x.stop(1);
            x.go(0, 2, 0);
            x.go(1, 0, 0);
            x.pass(1);
        }), 0, 1, 1, 1, 2);
        dueStay("the thirteenth, far back", ROW.then(x -> {
            for (int order = 1; order <= 12; order++) {
                x.go(0, order % 2, 0);
            }
            x.pass(12);
            x.go(0, 1, 0);
            x.pass(1);
        }), 12, 0, 0, 0, 0);
        says("`what`: 0 for the guard, 1 for the room, 2 for the minute from which, 3 for the minute up to which");
        tellRow("of guard 3", four, (x, what) -> x.stay(1, what), 3, 0, 0, 0);
        tellRow("of the latest", WATCHED, (x, what) -> x.stay(0, what), 0, 0, 5, 10);
    }

    private void stayErrors() {
        says("Returns the number; BAD_VALUE (back is negative, or what);");
        refuse("back -1", WATCHED, x -> x.stay(-1, 0), BAD_VALUE);
        refuse("back, the least", WATCHED, x -> x.stay(LEAST, 0), BAD_VALUE);
        refuseOutside("what", 0, 3, WATCHED, (x, what) -> x.stay(0, what), BAD_VALUE);
        refuse("both", WATCHED, x -> x.stay(-1, 4), BAD_VALUE);
        refuse("back, ahead of NONE", NEW, x -> x.stay(-1, 0), BAD_VALUE);
        refuse("what above, ahead of NONE", NEW, x -> x.stay(0, 4), BAD_VALUE);
        refuse("what below, ahead of NONE", WATCHED, x -> x.stay(3, -1), BAD_VALUE);
        says("NONE if there is none.");
        refuse("at first", NEW, x -> x.stay(0, 0), NONE);
        refuse("behind the first one", WATCHED, x -> x.stay(3, 3), NONE);
        refuse("the greatest", WATCHED, x -> x.stay(GREATEST, 0), NONE);
        for (int back : new int[] {4, 32, 256, 65536, 1 << 30, GREATEST - 1}) {
            refuse("back " + back, WATCHED, x -> x.stay(back, 1), NONE);
        }
    }

    private void gap() {
        promise(35);
        says("Tells the longest gap of a room within some minutes of this night.");
        tell("the whole night", WATCHED, x -> x.gap(1, 0, 20), 7);
        tell("of the guard room", WATCHED, x -> x.gap(0, 0, 20), 10);
        tell("the first of two", WATCHED, x -> x.gap(0, 0, 14), 5);
        tell("two that are as long", WATCHED, x -> x.gap(0, 0, 15), 5);
        tell("the second of two", WATCHED, x -> x.gap(0, 0, 16), 6);
        tell("never watched", WATCHED, x -> x.gap(2, 0, 20), 20);
        tell("all the night", ROW.then(Museums.pass(720)), x -> x.gap(1, 0, 720), 720);
        tell("always watched", ROW.then(Museums.pass(720)), x -> x.gap(0, 0, 720), 0);
        tell("of this night, not of the one before", WATCHED.then(x -> x.nextNight()).then(x -> x.pass(3)),
            x -> x.gap(0, 0, 3), 0);
        says("`room`: a room");
        tell("the first", WATCHED, x -> x.gap(0, 10, 20), 10);
        tell("the last", WATCHED, x -> x.gap(2, 10, 20), 10);
        says("`from`: the first minute, 0 or more");
        tell("0", WATCHED, x -> x.gap(1, 0, 1), 1);
        tell("the first of a gap", WATCHED, x -> x.gap(1, 4, 20), 7);
        tell("the second of it", WATCHED, x -> x.gap(1, 5, 20), 6);
        tell("the last of it", WATCHED, x -> x.gap(1, 10, 20), 1);
        tell("just behind it", WATCHED, x -> x.gap(1, 11, 20), 0);
        tell("the last minute", WATCHED, x -> x.gap(2, 19, 20), 1);
        tell("the present minute", WATCHED, x -> x.gap(2, 20, 20), 0);
        says("`until`: the minute behind the last one, at least from, at most the present minute");
        tell("from, at first", NEW, x -> x.gap(0, 0, 0), 0);
        tell("from, in a gap", WATCHED, x -> x.gap(1, 7, 7), 0);
        tell("one more than from", WATCHED, x -> x.gap(1, 7, 8), 1);
        tell("the first minute of a gap, which is not within", WATCHED, x -> x.gap(1, 1, 4), 0);
        tell("just behind it", WATCHED, x -> x.gap(1, 1, 5), 1);
        tell("the last minute of a gap, which is not within", WATCHED, x -> x.gap(1, 1, 10), 6);
        tell("just behind that", WATCHED, x -> x.gap(1, 1, 11), 7);
        tell("the present minute", WATCHED, x -> x.gap(0, 0, 20), 10);
        says("Returns the minutes of the gap, as far as it lies within;");
        tell("cut on both sides", WATCHED, x -> x.gap(1, 6, 9), 3);
        tell("cut on both sides by one", WATCHED, x -> x.gap(1, 5, 10), 5);
        tell("cut so that another is longer", WATCHED, x -> x.gap(0, 0, 12), 5);
        tell("watched all the time", WATCHED, x -> x.gap(1, 1, 4), 0);
    }

    private void gapOfAddedRoom() {
        says("(Minutes ahead of that in which a room was added count as not watched.)");
        Acts added = WATCHED.then(x -> x.addRoom(0, 0)).then(x -> x.addDoor(1, 3, 1, -1));
        tell("all of them", added, x -> x.gap(3, 0, 20), 20);
        tell("with those behind", added.then(x -> x.pass(5)), x -> x.gap(3, 0, 25), 25);
        tell("the last ahead and the first behind", added.then(x -> x.pass(5)), x -> x.gap(3, 19, 21), 2);
        tell("up to the one in which it is watched", added.then(x -> x.go(0, 3, 0)).then(x -> x.pass(5)),
            x -> x.gap(3, 0, 25), 21);
        tell("added at 0", ROW.then(x -> x.pass(5)), x -> x.gap(2, 0, 5), 5);
        tell("one that was undone was watched", NEW.then(x -> {
            x.addGuard();
            x.addRoom(0, 0);
            x.addDoor(0, 1, 1, -1);
            x.go(0, 1, 0);
            x.pass(5);
            x.undo();
            x.undo();
            x.undo();
            x.undo();
            x.pass(5);
            x.addRoom(0, 0);
        }), x -> x.gap(1, 0, 5), 5);
    }

    private void gapErrors() {
        says("UNKNOWN;");
        refuseOutside("room", 0, 2, WATCHED, (x, room) -> x.gap(room, 0, 20), UNKNOWN);
        refuse("ahead of BAD_VALUE by from", WATCHED, x -> x.gap(3, -1, 20), UNKNOWN);
        refuse("ahead of BAD_VALUE by until", WATCHED, x -> x.gap(-1, 0, 21), UNKNOWN);
        says("BAD_VALUE.");
        refuse("from -1", WATCHED, x -> x.gap(1, -1, 20), BAD_VALUE);
        refuse("from the least", WATCHED, x -> x.gap(1, LEAST, 20), BAD_VALUE);
        refuse("until one less than from", WATCHED, x -> x.gap(1, 5, 4), BAD_VALUE);
        refuse("until less than from by the greatest number", WATCHED, x -> x.gap(1, GREATEST, LEAST), BAD_VALUE);
        refuse("until one more than the present minute", WATCHED, x -> x.gap(1, 0, 21), BAD_VALUE);
        refuse("both one more", WATCHED, x -> x.gap(1, 21, 21), BAD_VALUE);
        refuse("both the greatest", WATCHED, x -> x.gap(1, GREATEST, GREATEST), BAD_VALUE);
        refuse("both the least", WATCHED, x -> x.gap(1, LEAST, LEAST), BAD_VALUE);
        refuse("both -1", WATCHED, x -> x.gap(1, -1, -1), BAD_VALUE);
        refuse("until 1 in a new museum", NEW, x -> x.gap(0, 0, 1), BAD_VALUE);
        refuse("until 721", ROW.then(Museums.pass(720)), x -> x.gap(1, 0, 721), BAD_VALUE);
        refuse("minutes of the night before", WATCHED.then(x -> x.nextNight()), x -> x.gap(1, 0, 1), BAD_VALUE);
    }

    private void way() {
        promise(36);
        says("Tells the fewest minutes in which a guard could walk to a room by doors without a key, and those "
            + "whose key the guard has, without stays.");
        tell("one door", LONG_ROW, x -> x.way(0, 1), 9);
        tell("five doors", LONG_ROW, x -> x.way(0, 5), 45);
        tell("eleven doors by a key", LONG_ROW.then(x -> x.takeKey(0, 7)), x -> x.way(0, 11), 99);
        Acts fromItsEnd = Museums.rooms(11).then(Museums.guards(1)).then(x -> {
            for (int room = 11; room >= 1; room--) {
                x.addDoor(room, room - 1, 9, -1);
            }
        });
        tell("eleven doors that are numbered from its end", fromItsEnd, x -> x.way(0, 11), 99);
        tell("and back", fromItsEnd.then(x -> {
            for (int room = 1; room <= 11; room++) {
                x.go(0, room, 0);
            }
            Museums.passMany(x, 99);
        }), x -> x.way(0, 0), 99);
        refuse("the key is in the cupboard", LONG_ROW, x -> x.way(0, 6), NONE);
        refuse("another guard has the key", LONG_ROW.then(x -> x.takeKey(0, 7)), x -> x.way(1, 6), NONE);
        refuse("another key", LONG_ROW.then(x -> x.takeKey(0, 6)), x -> x.way(0, 6), NONE);
        tell("the key 0", ROW.then(x -> x.addRoom(0, 0)).then(x -> x.addDoor(2, 3, 1, 0)).then(x -> x.takeKey(0, 0)),
            x -> x.way(0, 3), 3);
        refuse("without the key 0", ROW.then(x -> x.addRoom(0, 0)).then(x -> x.addDoor(2, 3, 1, 0)),
            x -> x.way(0, 3), NONE);
        tell("a door the other way", LONG_ROW.then(x -> x.go(0, 1, 0)).then(x -> x.pass(9)), x -> x.way(0, 0), 9);
        Acts around = ROW.then(x -> x.addRoom(0, 0)).then(x -> x.addDoor(0, 3, 4, -1))
            .then(x -> x.addDoor(3, 2, 4, -1));
        tell("two doors that take less", around.then(x -> x.addDoor(0, 2, 3, -1)), x -> x.way(0, 2), 2);
        tell("two ways that take as long", around.then(x -> x.addDoor(0, 2, 2, -1)), x -> x.way(0, 2), 2);
        tell("one door that takes less", around.then(x -> x.addDoor(2, 0, 1, -1)), x -> x.way(0, 2), 1);
        tell("one door that takes less than three", around, x -> x.way(0, 3), 4);
        tell("three doors that take less than one", ROW.then(x -> x.addRoom(0, 0)).then(x -> x.addDoor(0, 3, 9, -1))
            .then(x -> x.addDoor(3, 2, 6, -1)), x -> x.way(0, 3), 8);
        tell("a locked door that would take less", around.then(x -> x.addDoor(1, 3, 1, 5)), x -> x.way(0, 3), 4);
        tell("orders and stays do not count", ROW.then(x -> x.go(0, 1, 99)), x -> x.way(0, 2), 2);
        tell("minutes left to stay do not count", ROW.then(x -> x.go(0, 1, 99)).then(x -> x.pass(1)),
            x -> x.way(0, 2), 1);
        tell("closed zones do not count", ROW.then(x -> x.closeZone(0)), x -> x.way(0, 2), 2);
    }

    private void wayWalking() {
        says("For a guard who walks it is counted from the end of this walk on, and the minutes left of it are "
            + "added.");
        Acts walks = LONG_ROW.then(x -> x.go(0, 1, 50));
        tell("its first minute", walks.then(x -> x.pass(1)), x -> x.way(0, 2), 17);
        tell("its last minute", walks.then(x -> x.pass(8)), x -> x.way(0, 2), 10);
        tell("behind it", walks.then(x -> x.pass(9)), x -> x.way(0, 2), 9);
        tell("to the room itself", walks.then(x -> x.pass(8)), x -> x.way(0, 1), 1);
        tell("back", walks.then(x -> x.pass(8)), x -> x.way(0, 0), 10);
        refuse("no way behind it", walks.then(x -> x.pass(8)), x -> x.way(0, 6), NONE);
        says("`guard`: a guard");
        tell("the first", LONG_ROW, x -> x.way(0, 2), 18);
        tell("the last", LONG_ROW.then(x -> x.takeKey(1, 7)), x -> x.way(1, 6), 54);
        says("`room`: a room");
        tell("the first", LONG_ROW, x -> x.way(1, 0), 0);
        tell("the last", LONG_ROW.then(x -> x.takeKey(1, 7)), x -> x.way(1, 11), 99);
    }

    private void wayErrors() {
        says("Returns the minutes, 0 if the guard stands there;");
        tell("in the guard room", NEW.then(x -> x.addGuard()), x -> x.way(0, 0), 0);
        tell("in another room", ROW.then(x -> x.go(0, 1, 0)).then(x -> x.pass(1)), x -> x.way(0, 1), 0);
        tell("not while walking to it", LONG_ROW.then(x -> x.go(0, 1, 0)).then(x -> x.pass(1)), x -> x.way(0, 1), 8);
        says("UNKNOWN (guard or room);");
        refuseOutside("guard", 0, 2, NIGHT, (x, guard) -> x.way(guard, 1), UNKNOWN);
        refuseOutside("room", 0, 3, NIGHT, (x, room) -> x.way(2, room), UNKNOWN);
        refuse("no guard at all", NEW, x -> x.way(0, 0), UNKNOWN);
        refuse("room 12 of twelve", LONG_ROW, x -> x.way(0, 12), UNKNOWN);
        says("NONE if there is no way.");
        refuse("no door", ROW.then(x -> x.addRoom(0, 0)), x -> x.way(0, 3), NONE);
        refuse("a door between two others", ROW.then(Museums.rooms(2)).then(x -> x.addDoor(3, 4, 1, -1)),
            x -> x.way(0, 4), NONE);
        refuse("a door that was undone", ROW.then(x -> x.addRoom(0, 0)).then(x -> x.addDoor(0, 3, 1, -1))
            .then(x -> x.undo()), x -> x.way(0, 3), NONE);
        refuse("a key that was brought back", LONG_ROW.then(x -> x.takeKey(0, 7)).then(x -> x.bringKey(0, 7)),
            x -> x.way(0, 6), NONE);
    }

    private void firstDue() {
        promise(37);
        Acts two = Museums.row(1).then(x -> {
            x.addRoom(2, 0);
            x.setBound(1, 9);
            x.setBound(2, 9);
        });
        says("Tells which room runs out of its bound first if no room is watched from now on.");
        tell("the only one", Museums.rooms(2).then(x -> x.addRoom(0, 240)), x -> x.firstDue(), 3);
        tell("by the bound alone at first", two.then(x -> x.setBound(2, 8)), x -> x.firstDue(), 2);
        tell("one that is watched now runs out, too", two.then(x -> x.setBound(2, 0)).then(x -> x.go(0, 1, 0))
            .then(x -> x.pass(9)), x -> x.firstDue(), 1);
        says("Returns the room with a bound of which the fewest minutes are left (bound + 1 minus the minutes in a "
            + "row for which it has not been watched; those where this is 0 or less are left out), the lowest one "
            + "of several;");
        tell("the lowest of two", two, x -> x.firstDue(), 1);
        tell("the second has one less", two.then(x -> x.setBound(2, 8)), x -> x.firstDue(), 2);
        tell("the second has one more", two.then(x -> x.setBound(2, 10)), x -> x.firstDue(), 1);
        tell("a room without a bound is left out", two.then(x -> x.setBound(1, 0)), x -> x.firstDue(), 2);
        tell("the last of twelve", Museums.rooms(10).then(x -> x.addRoom(0, 1)), x -> x.firstDue(), 11);
        tell("the lowest of three", two.then(x -> x.setBound(3, 9)).then(x -> x.setBound(1, 10)), x -> x.firstDue(), 2);
        Acts later = two.then(x -> x.setBound(2, 20));
        tell("one minute is left", later.then(x -> x.pass(9)), x -> x.firstDue(), 1);
        tell("0 are left", later.then(x -> x.pass(10)), x -> x.firstDue(), 2);
        tell("less than 0 are left", later.then(x -> x.pass(11)), x -> x.firstDue(), 2);
        tell("less than 0 by a bound that was set", later.then(x -> x.pass(5)).then(x -> x.setBound(1, 2)),
            x -> x.firstDue(), 2);
        tell("0 by a bound that was set", later.then(x -> x.pass(5)).then(x -> x.setBound(1, 4)), x -> x.firstDue(), 2);
        tell("1 by a bound that was set", later.then(x -> x.pass(5)).then(x -> x.setBound(1, 5)), x -> x.firstDue(), 1);
        Acts watched = two.then(x -> x.go(0, 1, 5)).then(x -> x.pass(5));
        tell("the one that was watched has more left", watched, x -> x.firstDue(), 2);
        tell("which is as many by a lesser bound", watched.then(x -> x.setBound(1, 4)), x -> x.firstDue(), 1);
        tell("and one more by one that is greater", watched.then(x -> x.setBound(1, 5)), x -> x.firstDue(), 2);
        tell("left out ones are in again when they were watched", later.then(x -> x.pass(20)).then(x -> x.go(0, 1, 0))
            .then(x -> x.pass(2)), x -> x.firstDue(), 1);
    }

    private void firstDueNone() {
        says("NONE if there is none.");
        refuse("no room but the guard room", NEW, x -> x.firstDue(), NONE);
        refuse("no room with a bound", Museums.rooms(11), x -> x.firstDue(), NONE);
        refuse("all are left out", NEW.then(x -> x.addRoom(0, 1)).then(x -> x.pass(2)), x -> x.firstDue(), NONE);
        tell("not yet", NEW.then(x -> x.addRoom(0, 1)).then(x -> x.pass(1)), x -> x.firstDue(), 1);
        tell("the longest bound, not yet", NEW.then(x -> x.addRoom(0, 240)).then(Museums.pass(240)),
            x -> x.firstDue(), 1);
        refuse("the longest bound", NEW.then(x -> x.addRoom(0, 240)).then(Museums.pass(241)), x -> x.firstDue(), NONE);
        tell("in the next night again", NEW.then(x -> x.addRoom(0, 1)).then(x -> x.pass(2)).then(x -> x.nextNight()),
            x -> x.firstDue(), 1);
    }

    private void alarmsIn() {
        promise(38);
        says("Tells how many alarms there would be (lost ones, too) if minutes passed now, and nothing else "
            + "happened.");
        tell("during a night, one", NIGHT, x -> x.alarmsIn(1), 1);
        tell("during a night, three", NIGHT, x -> x.alarmsIn(30), 3);
        answer("as many as there are then", NIGHT, x -> x.alarmsIn(60) - x.pass(60), 0);
        tell("a second time", NIGHT.then(x -> x.alarmsIn(30)), x -> x.alarmsIn(30), 3);
        tell("those that there were do not count", NIGHT.then(x -> x.pass(30)), x -> x.alarmsIn(1), 0);
        tell("lost ones", Museums.crowded(4).then(x -> x.go(0, 1, 0)), x -> x.alarmsIn(2), 10);
        tell("noted and lost ones", Museums.crowded(3).then(x -> x.closeZone(0)).then(x -> x.go(0, 1, 0)),
            x -> x.alarmsIn(2), 11);
        tell("none is noted by it", NIGHT.then(x -> x.alarmsIn(30)), x -> x.count(7), 4);
        tell("no minute passes", NIGHT.then(x -> x.alarmsIn(30)), x -> x.count(0), 7);
        says("`minutes`: 1 to 60");
        Acts bound = NEW.then(x -> x.addRoom(0, 59));
        tell("1", bound.then(x -> x.pass(59)), x -> x.alarmsIn(1), 1);
        tell("1 too few", bound.then(x -> x.pass(58)), x -> x.alarmsIn(1), 0);
        tell("60", bound, x -> x.alarmsIn(60), 1);
        tell("59 are too few", bound, x -> x.alarmsIn(59), 0);
    }

    /** What is foretold goes by the same steps as the minutes that pass. */
    private void alarmsInSteps() {
        says("Tells how many alarms there would be (lost ones, too) if minutes passed now, and nothing else "
            + "happened.");
        Acts closed = ROW.then(x -> {
            x.closeZone(1);
            x.addDoor(2, 0, 4, 7);
            x.go(0, 1, 2);
            x.go(0, 0, 0);
            x.go(0, 2, 0);
        });
        refuse("the guard has no key: no arrival, so no stay there", closed.then(x -> x.pass(60)),
            x -> x.stay(2, 0), NONE);
        tell("no arrival without the key", closed, x -> x.alarmsIn(60), 0);
        Acts keyed = closed.then(x -> x.takeKey(0, 7));
        tell("the minute ahead of the arrival", keyed, x -> x.alarmsIn(7), 0);
        tell("the minute of the arrival", keyed, x -> x.alarmsIn(8), 1);
        tell("while walking", keyed.then(x -> x.pass(7)), x -> x.alarmsIn(1), 1);
        tell("while staying", keyed.then(x -> x.pass(2)), x -> x.alarmsIn(5), 0);
        tell("while staying, a minute later", keyed.then(x -> x.pass(2)), x -> x.alarmsIn(6), 1);
        Acts visited = ROW.then(x -> {
            x.setBound(1, 3);
            x.go(0, 1, 2);
            x.go(0, 0, 0);
        });
        tell("the bound of a room that is visited", visited, x -> x.alarmsIn(6), 0);
        tell("and left", visited, x -> x.alarmsIn(7), 1);
        Acts works = ROW.then(x -> {
            x.addWork(1, 1, 1);
            x.addWork(2, 2, 3);
            x.addWork(0, 1, 0);
            x.go(0, 1, 2);
            x.go(0, 2, 0);
        });
        tellRow("works, by minutes", works, (x, minutes) -> x.alarmsIn(minutes), BAD_VALUE, 1, 1, 2, 4, 4, 4);
        tell("one of a work that was taken away", works.then(x -> x.takeAway(2)), x -> x.alarmsIn(4), 2);
    }

    private void alarmsInErrors() {
        Acts last = ROW.then(Museums.pass(720));
        says("Returns the number; BAD_VALUE;");
        refuseOutside("minutes", 1, 60, NIGHT, (x, minutes) -> x.alarmsIn(minutes), BAD_VALUE);
        refuse("0 in the last minute", last, x -> x.alarmsIn(0), BAD_VALUE);
        refuse("ahead of NOT_POSSIBLE", last, x -> x.alarmsIn(61), BAD_VALUE);
        refuse("far above, ahead of NOT_POSSIBLE", last, x -> x.alarmsIn(GREATEST), BAD_VALUE);
        says("NOT_POSSIBLE if the minute would become more than 720.");
        refuse("1 in the last minute", last, x -> x.alarmsIn(1), NOT_POSSIBLE);
        tell("1 up to 720", ROW.then(Museums.pass(719)), x -> x.alarmsIn(1), 0);
        refuse("2 behind 719", ROW.then(Museums.pass(719)), x -> x.alarmsIn(2), NOT_POSSIBLE);
        tell("60 up to 720", ROW.then(Museums.pass(660)), x -> x.alarmsIn(60), 0);
        refuse("60 behind 661", ROW.then(Museums.pass(661)), x -> x.alarmsIn(60), NOT_POSSIBLE);
    }

    private void countOfHouse() {
        promise(39);
        says("`what`: 0 for the minute,");
        tell("0", NEW, x -> x.count(0), 0);
        tell("720", ROW.then(Museums.pass(720)), x -> x.count(0), 720);
        says("1 for the nights that are over,");
        tell("none", NIGHT, x -> x.count(1), 0);
        tell("two", ROW.then(x -> x.nextNight()).then(x -> x.nextNight()), x -> x.count(1), 2);
        tell("one is undone", ROW.then(x -> x.nextNight()).then(x -> x.nextNight()).then(x -> x.undo()),
            x -> x.count(1), 1);
        says("2 for the number of rooms,");
        tell("the guard room alone", NEW, x -> x.count(2), 1);
        tell("twelve", Museums.rooms(11), x -> x.count(2), 12);
        says("3 for doors,");
        tell("none", NEW, x -> x.count(3), 0);
        tell("twenty", Museums.doors(20), x -> x.count(3), 20);
        says("4 for guards,");
        tell("none", NEW, x -> x.count(4), 0);
        tell("four", Museums.guards(4), x -> x.count(4), 4);
        says("10 for zones that are open,");
        tell("none", NEW, x -> x.count(10), 0);
        tell("all six", NEW.then(x -> {
            for (int zone = 0; zone < 6; zone++) {
                x.openZone(zone);
            }
        }), x -> x.count(10), 6);
        says("11 for keys that are out,");
        tell("none", ROW, x -> x.count(11), 0);
        tell("three of two guards", NIGHT, x -> x.count(11), 3);
        tell("all eight", Museums.guards(3).then(x -> {
            for (int key = 0; key < 8; key++) {
                x.takeKey(key / 3, key);
            }
        }), x -> x.count(11), 8);
        tell("one brought back", NIGHT.then(x -> x.takeKey(2, 1)).then(x -> x.bringKey(2, 1)), x -> x.count(11), 3);
    }

    private void countOfNight() {
        says("5 for works this night,");
        tell("none", ROW, x -> x.count(5), 0);
        tell("four, with the one taken away", NIGHT, x -> x.count(5), 4);
        tell("ten", Museums.crowded(0), x -> x.count(5), 10);
        tell("none in the next night", Museums.crowded(0).then(x -> x.nextNight()), x -> x.count(5), 0);
        says("6 for those that are troubled,");
        tell("none", Museums.crowded(0), x -> x.count(6), 0);
        tell("two", NIGHT, x -> x.count(6), 2);
        tell("all ten", Museums.crowded(0).then(x -> x.go(0, 1, 0)).then(x -> x.pass(2)), x -> x.count(6), 10);
        tell("one taken away is not troubled", NIGHT.then(x -> x.takeAway(2)), x -> x.count(6), 1);
        says("7 for alarms that are noted,");
        tell("none", ROW, x -> x.count(7), 0);
        tell("four, with the one that is cleared", NIGHT, x -> x.count(7), 4);
        tell("forty", Museums.crowded(4), x -> x.count(7), 40);
        tell("no more than forty", Museums.crowded(5), x -> x.count(7), 40);
        says("8 for those of them that are not cleared,");
        tell("none", ROW, x -> x.count(8), 0);
        tell("three", NIGHT, x -> x.count(8), 3);
        tell("forty, without the lost ones", Museums.crowded(5), x -> x.count(8), 40);
        says("9 for alarms that were lost,");
        tell("none of forty", Museums.crowded(4), x -> x.count(9), 0);
        tell("ten of fifty", Museums.crowded(5), x -> x.count(9), 10);
        says("12 for stays that are over,");
        tell("none", ROW.then(x -> x.pass(60)), x -> x.count(12), 0);
        tell("three", WATCHED, x -> x.count(12), 3);
        tell("none in the next night", WATCHED.then(x -> x.nextNight()), x -> x.count(12), 0);
        says("13 for halts this night,");
        Acts halted = Museums.row(2).then(x -> x.go(0, 0, 0)).then(x -> x.go(1, 2, 0)).then(x -> x.pass(1));
        tell("none", WATCHED, x -> x.count(13), 0);
        tell("of two guards", halted, x -> x.count(13), 2);
        tell("two of one guard", halted.then(x -> x.go(0, 0, 0)).then(x -> x.pass(1)), x -> x.count(13), 3);
        tell("none in the next night", halted.then(x -> x.nextNight()), x -> x.count(13), 0);
        says("14 for the states in the history,");
        tell("none", NEW, x -> x.count(14), 0);
        tell("three", Museums.rooms(3), x -> x.count(14), 3);
        tell("no more than four", Museums.rooms(5), x -> x.count(14), 4);
        says("15 for the length of the text");
        tell("none", NEW, x -> x.count(15), 0);
        tell("three", NIGHT, x -> x.count(15), 3);
        tell("no more than sixty", NEW.then(x -> {
            for (int sign = 0; sign < 61; sign++) {
                x.type('1');
            }
        }), x -> x.count(15), 60);
    }

    private void countErrors() {
        says("Returns the number; BAD_VALUE.");
        refuseOutside("what", 0, 15, NIGHT, (x, what) -> x.count(what), BAD_VALUE);
        refuseOutside("what of a new museum", 0, 15, NEW, (x, what) -> x.count(what), BAD_VALUE);
    }
}
