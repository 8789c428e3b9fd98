/** Promises 18 and 19: the calls pass and nextNight; what a minute does is told by TermsEdges. */
final class TimeEdges extends Edges {
    private static final Acts NEW = Museums.NEW;
    private static final Acts NIGHT = Museums.NIGHT;
    private static final Acts ROW = Museums.row(1);

    @Override
    void run() {
        pass();
        passReturns();
        passErrors();
        nextNight();
        nextNightGuards();
        nextNightKeeps();
        nextNightReturns();
    }

    private void pass() {
        promise(18);
        says("Lets minutes pass, one after the other. This is an act.");
        act("during a night", NIGHT, x -> x.pass(1), 1);
        tell("the minute", NIGHT.then(x -> x.pass(1)), x -> x.count(0), 8);
        Acts atOnce = NIGHT.then(x -> x.pass(30));
        Acts oneByOne = NIGHT.then(x -> {
            for (int minute = 0; minute < 30; minute++) {
                x.pass(1);
            }
        });
        sameState("30 are as 30 times one", atOnce, oneByOne);
        act("several are one act", NIGHT, x -> x.pass(30), 3);
        says("`minutes`: 1 to 60");
        act("1", ROW, x -> x.pass(1), 0);
        act("60", ROW, x -> x.pass(60), 0);
        tell("1 is told", ROW.then(x -> x.pass(1)), x -> x.count(0), 1);
        tell("60 is told", ROW.then(x -> x.pass(60)), x -> x.count(0), 60);
        refuseOutside("minutes", 1, 60, NIGHT, (x, minutes) -> x.pass(minutes), BAD_VALUE);
    }

    private void passReturns() {
        says("Returns how many alarms there are in them (lost ones, too);");
        act("none", ROW, x -> x.pass(60), 0);
        Acts bound = NEW.then(x -> x.addRoom(0, 59));
        act("the one of the last minute", bound, x -> x.pass(60), 1);
        act("none of the minute behind", bound, x -> x.pass(59), 0);
        act("the one of the first minute", bound.then(x -> x.pass(59)), x -> x.pass(1), 1);
        act("none of the minutes before", bound.then(x -> x.pass(60)), x -> x.pass(60), 0);
        answer("several of one minute", Museums.crowded(0), Museums::visit, 10);
        answer("the last that are noted", Museums.crowded(3), Museums::visit, 10);
        answer("lost ones", Museums.crowded(4), Museums::visit, 10);
        answer("noted and lost ones", Museums.crowded(3).then(x -> x.closeZone(0)), Museums::visit, 11);
        tell("of which one is lost", Museums.crowded(3).then(x -> x.closeZone(0)).then(Museums::visit),
            x -> x.count(9), 1);
        answer("though others were cleared before", Museums.crowded(0).then(x -> {
            Museums.visit(x);
            x.go(0, 1, 0);
            x.pass(1);
            x.clearAlarm(0, 0);
        }), x -> x.pass(1), 10);
    }

    private void passErrors() {
        says("BAD_VALUE;");
        refuse("0", NIGHT, x -> x.pass(0), BAD_VALUE);
        refuse("61", NIGHT, x -> x.pass(61), BAD_VALUE);
        Acts last = ROW.then(Museums.pass(720));
        refuse("0 in the last minute", last, x -> x.pass(0), BAD_VALUE);
        refuse("ahead of NOT_POSSIBLE", last, x -> x.pass(61), BAD_VALUE);
        refuse("far above, ahead of NOT_POSSIBLE", last, x -> x.pass(GREATEST), BAD_VALUE);
        says("NOT_POSSIBLE if the minute would become more than 720.");
        refuse("1 in the last minute", last, x -> x.pass(1), NOT_POSSIBLE);
        refuse("60 in the last minute", last, x -> x.pass(60), NOT_POSSIBLE);
        act("1 up to 720", ROW.then(Museums.pass(719)), x -> x.pass(1), 0);
        refuse("2 behind 719", ROW.then(Museums.pass(719)), x -> x.pass(2), NOT_POSSIBLE);
        act("60 up to 720", ROW.then(Museums.pass(660)), x -> x.pass(60), 0);
        refuse("60 behind 661", ROW.then(Museums.pass(661)), x -> x.pass(60), NOT_POSSIBLE);
        tell("the last minute", last, x -> x.count(0), 720);
        act("in the next night again", last.then(x -> x.nextNight()), x -> x.pass(60), 0);
    }

    /** All keys are brought back; guard 0 stands in the guard room, 1 walks to room 3, 2 stands in room 1. */
    private static final Acts OVER = NIGHT.then(x -> {
        x.go(0, 1, 0);
        x.pass(5);
        x.go(0, 0, 0);
        x.stop(1);
        x.go(1, 0, 0);
        x.pass(30);
        x.bringKey(0, 3);
        x.bringKey(0, 5);
        x.bringKey(1, 0);
        x.openZone(3);
        x.addWork(0, 1, 1);
        x.go(1, 3, 7);
        x.go(1, 0, 7);
        x.pass(2);
    });

    private void nextNight() {
        promise(19);
        says("Begins the next night:");
        tell("ahead of it all keys are in the cupboard", OVER, x -> x.count(11), 0);
        act("with something of everything", OVER, x -> x.nextNight(), 1);
        act("in a new museum", NEW, x -> x.nextNight(), 1);
        says("the minute is 0,");
        tell("ahead of it", OVER, x -> x.count(0), 44);
        tell("behind it", OVER.then(x -> x.nextNight()), x -> x.count(0), 0);
        tell("from the last minute", ROW.then(Museums.pass(720)).then(x -> x.nextNight()), x -> x.count(0), 0);
        says("there are no works, alarms, stays and halts;");
        Acts next = OVER.then(x -> x.nextNight());
        tell("works", next, x -> x.count(5), 0);
        tell("troubled ones", next, x -> x.count(6), 0);
        refuse("work 0", next, x -> x.work(0, 3), UNKNOWN);
        tell("works in a room", next, x -> x.room(1, 7), 0);
        tell("alarms", next, x -> x.count(7), 0);
        tell("alarms that are not cleared", next, x -> x.count(8), 0);
        refuse("alarm 0", next, x -> x.alarm(0, 0), UNKNOWN);
        tell("alarms of a room", next, x -> x.room(1, 8), 0);
        tell("lost ones", Museums.crowded(5).then(x -> x.nextNight()), x -> x.count(9), 0);
        tell("stays", next, x -> x.count(12), 0);
        refuse("the latest stay", next, x -> x.stay(0, 0), NONE);
        tell("halts", next, x -> x.count(13), 0);
        tell("halts of a guard", next, x -> x.guard(0, 6), 0);
        tell("halts ahead of it", OVER.then(x -> x.go(2, 2, 0)).then(x -> x.pass(20)), x -> x.count(13), 1);
        tell("halts behind it", OVER.then(x -> x.go(2, 2, 0)).then(x -> x.pass(20)).then(x -> x.nextNight()),
            x -> x.count(13), 0);
        tell("40 alarms again", Museums.crowded(5).then(x -> x.nextNight()).then(x -> {
            x.addWork(1, 1, 0);
            Museums.visit(x);
        }), x -> x.count(7), 2);
        says("no room has been watched or not for any minute;");
        for (int room = 0; room <= 3; room++) {
            int r = room;
            tell("watched in a row, room " + room, next, x -> x.room(r, 2), 0);
            tell("not watched in a row, room " + room, next, x -> x.room(r, 3), 0);
            tell("longest gap, room " + room, next, x -> x.room(r, 4), 0);
            tell("watched this night, room " + room, next, x -> x.room(r, 5), 0);
        }
        tell("the bound counts from the start", next, x -> x.alarmsIn(5), 0);
        tell("and no later", next, x -> x.alarmsIn(6), 1);
        tell("the gap of the first minute of a room that was watched in it", NEW.then(x -> {
            x.addGuard();
            x.pass(1);
            x.nextNight();
            x.addRoom(0, 0);
            x.addDoor(0, 1, 9, -1);
            x.go(0, 1, 0);
            x.pass(1);
        }), x -> x.gap(0, 0, 1), 1);
    }

    private void nextNightGuards() {
        Acts next = OVER.then(x -> x.nextNight());
        says("all guards stand in the guard room without orders,");
        tell("one walks ahead of it", OVER, x -> x.guard(1, 1), 3);
        tell("one stands elsewhere ahead of it", OVER, x -> x.guard(2, 0), 1);
        for (int guard = 0; guard <= 2; guard++) {
            int g = guard;
            tellRow("guard " + guard, next, (x, what) -> x.guard(g, what), 0, NONE, NONE, 0, 0, 0, 0, 0);
        }
        tell("no minutes left to stay", ROW.then(x -> {
            x.go(0, 1, 50);
            x.pass(9);
            x.nextNight();
        }), x -> x.guard(0, 3), 0);
        tell("a walk is over", next.then(x -> x.pass(9)), x -> x.guard(1, 0), 0);
        tell("a new order is followed at once", next.then(x -> x.go(1, 1, 0)).then(x -> x.pass(1)),
            x -> x.guard(1, 0), 1);
        tell("stays begin with 0", next.then(x -> x.pass(3)).then(x -> x.go(1, 1, 0)).then(x -> x.pass(1)),
            x -> x.stay(0, 2), 0);
        says("and all zones are closed.");
        tell("open ones ahead of it", OVER, x -> x.count(10), 3);
        tell("none is open", next, x -> x.count(10), 0);
        tellRow("zone", next, (x, zone) -> x.zone(zone, 0), 0, 0, 0, 0, 0, 0);
    }

    private void nextNightKeeps() {
        Acts next = OVER.then(x -> x.nextNight());
        says("Rooms, doors, bounds and which zones exclude one another stay. This is an act.");
        tell("rooms", next, x -> x.count(2), 4);
        tellRow("zone of room", next, (x, room) -> x.room(room, 0), NONE, 0, 1, 2);
        tellRow("bound of room", next, (x, room) -> x.room(room, 1), 0, 5, 0, 30);
        tell("doors", next, x -> x.count(3), 3);
        tellRow("door 1", next, (x, what) -> x.door(1, what), 1, 2, 3, 3, 2);
        tell("guards", next, x -> x.count(4), 3);
        tellRow("excluded by zone", next, (x, zone) -> x.zone(zone, 1), 2, 1, 0, 0, 32, 16);
        tell("the text stays", next, x -> x.count(15), 3);
        answer("the snapshot stays", next, x -> x.restore(), 4);
        answer("undo goes back to the night before", next, x -> x.undo() * 1000 + x.count(0), 3044);
        act("twice", next, x -> x.nextNight(), 2);
    }

    private void nextNightReturns() {
        says("Returns the number of nights that are over;");
        act("1", ROW, x -> x.nextNight(), 1);
        act("2", ROW.then(x -> x.nextNight()), x -> x.nextNight(), 2);
        act("1 again", ROW.then(x -> x.nextNight()).then(x -> x.undo()), x -> x.nextNight(), 1);
        answer("a hundred", NEW.then(x -> {
            for (int night = 0; night < 99; night++) {
                x.nextNight();
            }
        }), x -> x.nextNight(), 100);
        says("NOT_POSSIBLE if a key is not in the cupboard.");
        refuse("key 0", ROW.then(x -> x.takeKey(0, 0)), x -> x.nextNight(), NOT_POSSIBLE);
        refuse("key 7", ROW.then(x -> x.takeKey(0, 7)), x -> x.nextNight(), NOT_POSSIBLE);
        refuse("the last guard has it", Museums.row(4).then(x -> x.takeKey(3, 4)), x -> x.nextNight(), NOT_POSSIBLE);
        refuse("a guard on the way has it", NIGHT, x -> x.nextNight(), NOT_POSSIBLE);
        act("brought back", ROW.then(x -> x.takeKey(0, 7)).then(x -> x.bringKey(0, 7)), x -> x.nextNight(), 1);
        refuse("one of two is brought back", ROW.then(x -> {
            x.takeKey(0, 7);
            x.takeKey(0, 6);
            x.bringKey(0, 7);
        }), x -> x.nextNight(), NOT_POSSIBLE);
    }
}
