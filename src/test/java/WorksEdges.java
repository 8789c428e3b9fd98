/** Promises 14 to 17: works, and alarms that are cleared. */
final class WorksEdges extends Edges {
    private static final Acts NIGHT = Museums.NIGHT;
    private static final Acts ROW = Museums.row(1);
    /** The guard stands in room 1; from there a door with a key leads to room 2, and none to room 3. */
    private static final Acts GUARDED = x -> {
        x.addRoom(0, 0);
        x.addRoom(1, 0);
        x.addRoom(2, 0);
        x.addDoor(0, 1, 1, -1);
        x.addDoor(2, 1, 9, 4);
        x.addDoor(3, 0, 1, -1);
        x.openZone(0);
        x.openZone(1);
        x.addGuard();
        x.addWork(1, 1, 9);
        x.go(0, 1, 0);
        x.pass(1);
    };
    /** An alarm of the minute 2 in room 1, to which guard 1 comes in the minute 9. */
    private static final Acts ALARMED = x -> {
        x.addRoom(0, 2);
        x.addDoor(0, 1, 1, -1);
        x.openZone(0);
        x.addGuard();
        x.addGuard();
        x.pass(8);
        x.go(1, 1, 3);
        x.pass(1);
    };

    @Override
    void run() {
        addWork();
        addWorkErrors();
        moveWork();
        moveWorkErrors();
        takeAway();
        clearAlarm();
        clearAlarmErrors();
    }

    private static Acts works(int added) {
        return x -> {
            for (int work = 0; work < added; work++) {
                x.addWork(2, 1, 50 + work);
            }
        };
    }

    private void addWork() {
        promise(14);
        says("Adds a work. This is an act.");
        act("during a night", NIGHT, x -> x.addWork(1, 2, 7), 4);
        tellRow("the work", NIGHT.then(x -> x.addWork(1, 2, 7)), (x, what) -> x.work(4, what), 1, 2, 7, 0, 0);
        Acts gone = ROW.then(x -> {
            x.keep();
            x.addWork(2, 1, 0);
            x.pass(1);
            x.restore();
        });
        tellRow("the work in place of one that is not there any more", gone.then(x -> x.addWork(1, 2, 7)),
            (x, what) -> x.work(0, what), 1, 2, 7, 0, 0);
        tellRow("the work in place of one of the night before", NIGHT.then(x -> x.undo()).then(x -> {
            x.pass(30);
            x.bringKey(1, 0);
            x.go(0, 1, 0);
            x.go(0, 0, 0);
            x.pass(9);
            x.bringKey(0, 3);
            x.bringKey(0, 5);
            x.nextNight();
            x.addWork(1, 2, 7);
        }), (x, what) -> x.work(0, what), 1, 2, 7, 0, 0);
        says("`kind`: 0 to 2");
        act("0", ROW, x -> x.addWork(0, 1, 7), 0);
        act("2", ROW, x -> x.addWork(2, 1, 7), 0);
        tell("0 is told", ROW.then(x -> x.addWork(0, 1, 7)), x -> x.work(0, 0), 0);
        tell("2 is told", ROW.then(x -> x.addWork(2, 1, 7)), x -> x.work(0, 0), 2);
        refuseOutside("kind", 0, 2, NIGHT, (x, kind) -> x.addWork(kind, 1, 7), BAD_VALUE);
        says("`room`: a room, not the guard room");
        act("the first that is not", ROW, x -> x.addWork(2, 1, 7), 0);
        act("the last", ROW, x -> x.addWork(2, 2, 7), 0);
        act("the last of twelve", Museums.rooms(11), x -> x.addWork(2, 11, 7), 0);
        refuseOutside("room", 1, 3, NIGHT, (x, room) -> x.addWork(2, room, 7), UNKNOWN);
        says("`limit`: 0 to 99");
        act("0", ROW, x -> x.addWork(2, 1, 0), 0);
        act("99", ROW, x -> x.addWork(2, 1, 99), 0);
        tell("0 is told", ROW.then(x -> x.addWork(2, 1, 0)), x -> x.work(0, 2), 0);
        tell("99 is told", ROW.then(x -> x.addWork(2, 1, 99)), x -> x.work(0, 2), 99);
        act("99 of a kind for which it plays no part", ROW, x -> x.addWork(0, 1, 99), 0);
        refuseOutside("limit", 0, 99, NIGHT, (x, limit) -> x.addWork(2, 1, limit), BAD_VALUE);
        refuseOutside("limit of kind 0", 0, 99, NIGHT, (x, limit) -> x.addWork(0, 1, limit), BAD_VALUE);
    }

    private void addWorkErrors() {
        Acts ten = ROW.then(works(10));
        says("Returns its number;");
        act("the first", ROW, x -> x.addWork(0, 1, 0), 0);
        act("the last", ROW.then(works(9)), x -> x.addWork(0, 1, 0), 9);
        act("the number of one that was undone", ten.then(x -> x.undo()), x -> x.addWork(0, 1, 0), 9);
        act("those that are taken away keep theirs", ROW.then(works(3)).then(x -> x.takeAway(2)),
            x -> x.addWork(0, 1, 0), 3);
        says("UNKNOWN if there is no such room, or it is the guard room;");
        refuse("no such room", ROW, x -> x.addWork(0, 3, 0), UNKNOWN);
        refuse("room -1", ROW, x -> x.addWork(0, -1, 0), UNKNOWN);
        refuse("the guard room", ROW, x -> x.addWork(0, 0, 0), UNKNOWN);
        refuse("no room, ahead of BAD_VALUE by kind", ROW, x -> x.addWork(3, 3, 0), UNKNOWN);
        refuse("no room, ahead of BAD_VALUE by limit", ROW, x -> x.addWork(0, 3, 100), UNKNOWN);
        refuse("the guard room, ahead of BAD_VALUE by kind", ROW, x -> x.addWork(-1, 0, 0), UNKNOWN);
        refuse("the guard room, ahead of BAD_VALUE by limit", ROW, x -> x.addWork(0, 0, -1), UNKNOWN);
        refuse("no room, ahead of FULL", ten, x -> x.addWork(0, 3, 0), UNKNOWN);
        refuse("the guard room, ahead of FULL", ten, x -> x.addWork(0, 0, 0), UNKNOWN);
        says("BAD_VALUE;");
        refuse("kind -1", ROW, x -> x.addWork(-1, 1, 0), BAD_VALUE);
        refuse("kind 3", ROW, x -> x.addWork(3, 1, 0), BAD_VALUE);
        refuse("limit -1", ROW, x -> x.addWork(0, 1, -1), BAD_VALUE);
        refuse("limit 100", ROW, x -> x.addWork(0, 1, 100), BAD_VALUE);
        refuse("kind, ahead of FULL", ten, x -> x.addWork(3, 1, 0), BAD_VALUE);
        refuse("limit, ahead of FULL", ten, x -> x.addWork(0, 1, 100), BAD_VALUE);
        says("FULL if there have been 10 this night.");
        refuse("with 10", ten, x -> x.addWork(0, 1, 0), FULL);
        act("with 9", ROW.then(works(9)), x -> x.addWork(2, 2, 99), 9);
        refuse("with 10 of which one is taken away", ten.then(x -> x.takeAway(9)), x -> x.addWork(0, 1, 0), FULL);
        act("in the next night", ten.then(x -> x.nextNight()), x -> x.addWork(0, 1, 0), 0);
        refuse("with 10 in the next night", ten.then(x -> x.nextNight()).then(works(10)),
            x -> x.addWork(0, 1, 0), FULL);
    }

    private void moveWork() {
        promise(15);
        says("Moves a work through a door; whether it is troubled stays. This is an act.");
        act("without the key of the door", GUARDED, x -> x.moveWork(0, 2), 9);
        tell("its room", GUARDED.then(x -> x.moveWork(0, 2)), x -> x.work(0, 1), 2);
        tell("fine stays fine", GUARDED.then(x -> x.moveWork(0, 2)), x -> x.work(0, 3), 0);
        Acts troubled = GUARDED.then(x -> x.addWork(1, 1, 0)).then(x -> x.pass(1));
        tell("troubled ahead of it", troubled, x -> x.work(1, 3), 1);
        tell("troubled stays troubled", troubled.then(x -> x.moveWork(1, 2)), x -> x.work(1, 3), 1);
        tell("no minute passes", troubled.then(x -> x.moveWork(1, 2)), x -> x.count(0), 2);
        answer("no second alarm when it is troubled there, too", GUARDED.then(x -> x.addWork(2, 1, 0)).then(x -> {
            x.go(0, 0, 0);
            x.pass(2);
            x.go(0, 1, 0);
            x.pass(1);
            x.moveWork(1, 2);
        }), x -> x.alarmsIn(1) * 10 + x.work(1, 3), 1);
        says("`work`: a work");
        act("the first", GUARDED, x -> x.moveWork(0, 2), 9);
        act("the last", GUARDED.then(works(1)), x -> x.moveWork(1, 2), 9);
        act("the last of ten", GUARDED.then(works(9)), x -> x.moveWork(9, 2), 9);
        tell("the others stay", GUARDED.then(works(1)).then(x -> x.moveWork(1, 2)), x -> x.work(0, 1), 1);
        refuseOutside("work", 0, 1, GUARDED.then(works(1)), (x, work) -> x.moveWork(work, 2), UNKNOWN);
        says("`room`: a room, not the guard room");
        refuseOutside("room", 1, 3, GUARDED, (x, room) -> x.moveWork(0, room), UNKNOWN);
        says("Returns the minutes of the door;");
        act("9", GUARDED, x -> x.moveWork(0, 2), 9);
        act("1", ROW.then(works(1)).then(x -> x.go(0, 1, 0)).then(x -> x.pass(1)), x -> x.moveWork(0, 2), 1);
        act("of the right one of two doors", GUARDED.then(x -> x.addDoor(1, 3, 5, -1)), x -> x.moveWork(0, 3), 5);
    }

    private void moveWorkErrors() {
        Acts away = GUARDED.then(x -> x.takeAway(0));
        says("UNKNOWN (work, room, or the guard room);");
        refuse("no work at all", ROW, x -> x.moveWork(0, 2), UNKNOWN);
        refuse("work 1 of one", GUARDED, x -> x.moveWork(1, 2), UNKNOWN);
        refuse("room 4", GUARDED, x -> x.moveWork(0, 4), UNKNOWN);
        refuse("the guard room, to which there is a door", GUARDED, x -> x.moveWork(0, 0), UNKNOWN);
        refuse("the guard room, ahead of NOT_POSSIBLE", away, x -> x.moveWork(0, 0), UNKNOWN);
        refuse("no room, ahead of NOT_POSSIBLE", away, x -> x.moveWork(0, -1), UNKNOWN);
        refuse("no work, ahead of a guard who is elsewhere", NIGHT, x -> x.moveWork(4, 1), UNKNOWN);
        refuse("a work of the night before", GUARDED.then(x -> x.nextNight()), x -> x.moveWork(0, 2), UNKNOWN);
        says("NOT_POSSIBLE if it is taken away, no guard stands in its room, or there is no door between both "
            + "rooms.");
        refuse("taken away", away, x -> x.moveWork(0, 2), NOT_POSSIBLE);
        refuse("no guard", GUARDED.then(x -> x.go(0, 0, 0)).then(x -> x.pass(1)), x -> x.moveWork(0, 2), NOT_POSSIBLE);
        refuse("a guard in the other room", GUARDED.then(works(1)).then(x -> x.moveWork(1, 2)),
            x -> x.moveWork(1, 1), NOT_POSSIBLE);
        Acts comes = GUARDED.then(x -> x.addDoor(0, 2, 3, -1)).then(x -> x.moveWork(0, 2)).then(x -> {
            x.go(0, 0, 0);
            x.go(0, 2, 0);
        });
        refuse("a guard walks to its room", comes.then(x -> x.pass(3)), x -> x.moveWork(0, 1), NOT_POSSIBLE);
        act("the guard has come", comes.then(x -> x.pass(4)), x -> x.moveWork(0, 1), 9);
        refuse("no door", GUARDED, x -> x.moveWork(0, 3), NOT_POSSIBLE);
        refuse("two doors one behind the other", GUARDED.then(x -> x.addDoor(2, 3, 1, -1)),
            x -> x.moveWork(0, 3), NOT_POSSIBLE);
        refuse("its own room", GUARDED, x -> x.moveWork(0, 1), NOT_POSSIBLE);
        act("the guard is about to set off", GUARDED.then(x -> x.go(0, 0, 0)), x -> x.moveWork(0, 2), 9);
    }

    private void takeAway() {
        promise(16);
        Acts two = ROW.then(x -> x.addWork(2, 1, 3)).then(x -> x.addWork(2, 1, 4)).then(x -> x.pass(4));
        says("Takes a work away. This is an act.");
        act("during a night", NIGHT, x -> x.takeAway(1), 0);
        tell("its state", NIGHT.then(x -> x.takeAway(1)), x -> x.work(1, 3), 2);
        tell("no other one's", NIGHT.then(x -> x.takeAway(1)), x -> x.work(2, 3), 1);
        says("`work`: a work");
        act("the first", two, x -> x.takeAway(0), 1);
        act("the last of ten", ROW.then(works(10)), x -> x.takeAway(9), 0);
        says("Returns 1 if it was troubled, otherwise 0;");
        act("troubled", two, x -> x.takeAway(0), 1);
        act("fine", two, x -> x.takeAway(1), 0);
        act("fine at first", ROW.then(works(1)), x -> x.takeAway(0), 0);
        act("fine again", two.then(x -> x.go(0, 1, 0)).then(x -> x.pass(2)), x -> x.takeAway(0), 0);
        act("troubled just now", two.then(x -> x.pass(1)), x -> x.takeAway(1), 1);
        says("UNKNOWN;");
        refuseOutside("work", 0, 3, NIGHT, (x, work) -> x.takeAway(work), UNKNOWN);
        refuse("no work at all", ROW, x -> x.takeAway(0), UNKNOWN);
        refuse("a work of the night before", ROW.then(works(1)).then(x -> x.nextNight()), x -> x.takeAway(0), UNKNOWN);
        says("NONE if it is taken away already.");
        refuse("was troubled", two.then(x -> x.takeAway(0)), x -> x.takeAway(0), NONE);
        refuse("was fine", two.then(x -> x.takeAway(1)), x -> x.takeAway(1), NONE);
        refuse("and a minute passed", two.then(x -> x.takeAway(1)).then(x -> x.pass(1)), x -> x.takeAway(1), NONE);
        act("undone", two.then(x -> x.takeAway(0)).then(x -> x.undo()), x -> x.takeAway(0), 1);
    }

    private void clearAlarm() {
        promise(17);
        says("Lets a guard clear an alarm. This is an act.");
        act("of a bound", ALARMED, x -> x.clearAlarm(0, 1), 7);
        tell("the guard", ALARMED.then(x -> x.clearAlarm(0, 1)), x -> x.alarm(0, 3), 1);
        tell("the minute", ALARMED.then(x -> x.clearAlarm(0, 1)), x -> x.alarm(0, 4), 9);
        Acts both = ALARMED.then(x -> x.addWork(1, 1, 0)).then(x -> x.pass(1));
        tell("no other one", both.then(x -> x.clearAlarm(0, 1)), x -> x.alarm(1, 3), NONE);
        says("`alarm`: an alarm");
        act("the first", both, x -> x.clearAlarm(0, 1), 8);
        act("the last", both, x -> x.clearAlarm(1, 1), 1);
        refuseOutside("alarm", 0, 1, both, (x, alarm) -> x.clearAlarm(alarm, 1), UNKNOWN);
        says("`guard`: a guard");
        act("the first", ROW.then(x -> {
            x.closeZone(0);
            x.go(0, 1, 0);
            x.pass(1);
        }), x -> x.clearAlarm(0, 0), 1);
        act("the last", ALARMED, x -> x.clearAlarm(0, 1), 7);
        refuseOutside("guard", 0, 1, ALARMED, (x, guard) -> x.clearAlarm(0, guard), UNKNOWN);
        says("Returns the present minute minus that of the alarm;");
        act("1 at the least", ROW.then(x -> {
            x.closeZone(0);
            x.go(0, 1, 0);
            x.pass(1);
        }), x -> x.clearAlarm(0, 0), 1);
        act("a minute later", ALARMED.then(x -> x.pass(1)), x -> x.clearAlarm(0, 1), 8);
        act("the longest", ROW.then(x -> {
            x.closeZone(0);
            x.go(0, 1, 0);
        }).then(Museums.pass(720)), x -> x.clearAlarm(0, 0), 720);
    }

    private void clearAlarmErrors() {
        Acts cleared = ALARMED.then(x -> x.clearAlarm(0, 1));
        says("UNKNOWN (alarm or guard);");
        refuse("no alarm at all", ROW, x -> x.clearAlarm(0, 0), UNKNOWN);
        refuse("alarm 1 of one", ALARMED, x -> x.clearAlarm(1, 1), UNKNOWN);
        refuse("guard 2 of two", ALARMED, x -> x.clearAlarm(0, 2), UNKNOWN);
        refuse("no alarm, by a guard who is elsewhere", ALARMED, x -> x.clearAlarm(1, 0), UNKNOWN);
        refuse("no guard, ahead of NONE", cleared, x -> x.clearAlarm(0, 2), UNKNOWN);
        refuse("no guard, as NONE", cleared, x -> x.clearAlarm(0, NONE), UNKNOWN);
        refuse("an alarm of the night before", ALARMED.then(x -> x.nextNight()), x -> x.clearAlarm(0, 1), UNKNOWN);
        says("NOT_POSSIBLE if the guard does not stand in the room of the alarm;");
        refuse("stands elsewhere", ALARMED, x -> x.clearAlarm(0, 0), NOT_POSSIBLE);
        Acts far = ALARMED.then(x -> x.addRoom(1, 0)).then(x -> x.addDoor(1, 2, 2, -1)).then(x -> x.stop(1));
        Acts left = far.then(x -> x.go(1, 2, 0)).then(x -> x.go(1, 1, 0));
        act("about to set off", left, x -> x.clearAlarm(0, 1), 7);
        refuse("walks away", left.then(x -> x.pass(1)), x -> x.clearAlarm(0, 1), NOT_POSSIBLE);
        refuse("walks to it", left.then(x -> x.pass(3)), x -> x.clearAlarm(0, 1), NOT_POSSIBLE);
        act("has come to it", left.then(x -> x.pass(4)), x -> x.clearAlarm(0, 1), 11);
        refuse("ahead of NONE", cleared, x -> x.clearAlarm(0, 0), NOT_POSSIBLE);
        Acts moved = GUARDED.then(x -> x.addWork(1, 1, 0)).then(x -> x.pass(1)).then(x -> x.moveWork(1, 2));
        act("the room is the one that was noted, though its work was moved", moved, x -> x.clearAlarm(0, 0), 1);
        says("NONE if it is cleared already.");
        refuse("by the same guard", cleared, x -> x.clearAlarm(0, 1), NONE);
        refuse("by the same guard later", cleared.then(x -> x.pass(3)), x -> x.clearAlarm(0, 1), NONE);
        refuse("by another guard", cleared.then(x -> x.go(0, 1, 0)).then(x -> x.pass(1)),
            x -> x.clearAlarm(0, 0), NONE);
        act("undone", cleared.then(x -> x.undo()), x -> x.clearAlarm(0, 1), 7);
    }
}
