/** The section Terms: what happens when a minute passes, in its six steps, and the alarms that are noted. */
final class MinuteEdges extends Edges {
    private static final Acts NEW = Museums.NEW;
    private static final Acts NIGHT = Museums.NIGHT;
    private static final Acts ROW = Museums.row(1);
    private static final Acts PAIR = Museums.row(2);
    /** A row in which the door between the rooms 1 and 2 has the key 5. */
    private static final Acts LOCKED = x -> {
        x.addRoom(0, 0);
        x.addRoom(1, 0);
        x.addDoor(0, 1, 1, -1);
        x.addDoor(1, 2, 1, 5);
        x.openZone(0);
        x.openZone(1);
        x.addGuard();
        x.addGuard();
    };

    @Override
    void run() {
        promise(TERMS);
        minute();
        settingOff();
        orderIsRemoved();
        doorsAndKeys();
        halts();
        minutesToStay();
        watching();
        walking();
        arriving();
        bounds();
        looking();
        minuteBecomesGreater();
        alarmsNoted();
        alarmsLost();
    }

    private void minute() {
        says("The minute is 0 at first, and at most 720.");
        tell("0", NEW, x -> x.count(0), 0);
        tell("720", NEW.then(Museums.pass(720)), x -> x.count(0), 720);
        refuse("no 721", NEW.then(Museums.pass(720)), x -> x.pass(1), NOT_POSSIBLE);
        says("When a minute passes, the following happens in this order:");
        Acts all = NEW.then(x -> {
            x.addRoom(0, 1);
            x.addRoom(0, 1);
            x.addDoor(0, 1, 2, -1);
            x.addDoor(0, 2, 2, -1);
            x.addGuard();
            x.addGuard();
            x.addWork(2, 2, 1);
            x.addWork(2, 1, 1);
            x.go(0, 2, 0);
            x.go(1, 1, 0);
            x.pass(2);
        });
        tellRow("cause of alarm", all, (x, alarm) -> x.alarm(alarm, 0), 0, 0, 1, 1, 2, 2, UNKNOWN);
        tellRow("room of alarm", all, (x, alarm) -> x.alarm(alarm, 1), 2, 1, 1, 2, 2, 1, UNKNOWN);
        tellRow("minute of alarm", all, (x, alarm) -> x.alarm(alarm, 2), 1, 1, 1, 1, 1, 1, UNKNOWN);
    }

    private void settingOff() {
        says("1. Each guard, by number, who stands, has 0 minutes left to stay, and has an order, sets off by the "
            + "first order,");
        Acts three = Museums.row(3).then(x -> {
            x.go(2, 1, 0);
            x.go(0, 1, 0);
            x.go(1, 1, 0);
            x.pass(1);
        });
        tell("the greatest is the latest", three, x -> x.stay(0, 0), 2);
        tell("the one between", three, x -> x.stay(1, 0), 1);
        tell("the least is the first", three, x -> x.stay(2, 0), 0);
        tell("all of them", three, x -> x.room(1, 6), 3);
        Acts far = ROW.then(x -> x.addDoor(0, 2, 9, -1)).then(x -> x.go(0, 2, 0)).then(x -> x.go(0, 1, 0));
        tell("one who walks does not", far.then(x -> x.pass(8)), x -> x.guard(0, 4), 1);
        tell("nor in the minute in which the walk ends", far.then(x -> x.pass(9)), x -> x.guard(0, 4), 1);
        tell("but in the next one", far.then(x -> x.pass(10)), x -> x.guard(0, 4), 0);
        Acts stays = ROW.then(x -> x.go(0, 1, 1)).then(x -> x.go(0, 2, 0)).then(x -> x.pass(1));
        tell("one with 1 minute left does not", stays.then(x -> x.pass(1)), x -> x.guard(0, 0), 1);
        tell("one with 0 minutes left does", stays.then(x -> x.pass(2)), x -> x.guard(0, 0), 2);
        tell("one without an order does not", ROW.then(x -> x.pass(60)), x -> x.guard(0, 0), 0);
        tell("nor is that a halt", ROW.then(x -> x.pass(60)), x -> x.guard(0, 6), 0);
        tell("one by one order in a minute", ROW.then(x -> x.go(0, 1, 0)).then(x -> x.go(0, 2, 0)).then(x -> x.pass(1)),
            x -> x.guard(0, 0), 1);
    }

    private void orderIsRemoved() {
        says("which is removed:");
        Acts twelve = ROW.then(x -> {
            x.go(0, 1, 50);
            for (int order = 1; order < 12; order++) {
                x.go(0, 2, order);
            }
        });
        tellRow("the others move up, of twelve", twelve.then(x -> x.pass(1)), (x, place) -> x.orderAt(0, place),
            201, 202, 203, 204, 205, 206, 207, 208, 209, 210, 211, NONE);
        tell("the only one", ROW.then(x -> x.go(0, 1, 0)).then(x -> x.pass(1)), x -> x.guard(0, 4), 0);
        tellRow("the orders of another guard stay", PAIR.then(x -> {
            x.go(0, 1, 0);
            x.go(0, 2, 50);
            x.go(1, 0, 33);
            x.go(1, 1, 44);
            x.stop(1);
            x.go(1, 1, 22);
            x.go(1, 2, 33);
            x.pass(1);
        }), (x, place) -> x.orderAt(1, place), 233, NONE);
        tell("so twelve can be given again", twelve.then(x -> x.pass(1)).then(x -> x.go(0, 0, 0)),
            x -> x.guard(0, 4), 12);
    }

    private void doorsAndKeys() {
        says("if there is a door between the guard's room and that of the order, and it has no key or the guard "
            + "has its key, the guard walks through it to that room; otherwise all orders of the guard are "
            + "dropped, and this is a halt.");
        tell("no key", ROW.then(x -> x.go(0, 1, 0)).then(x -> x.pass(1)), x -> x.guard(0, 0), 1);
        tell("the other way", ROW.then(x -> x.go(0, 1, 0)).then(x -> x.go(0, 0, 0)).then(x -> x.pass(2)),
            x -> x.guard(0, 7), 2);
        Acts sent = LOCKED.then(x -> x.go(0, 1, 0)).then(x -> x.go(0, 2, 0)).then(x -> x.go(0, 1, 0))
            .then(x -> x.go(0, 0, 0));
        tell("its key", sent.then(x -> x.takeKey(0, 5)).then(x -> x.pass(2)), x -> x.guard(0, 0), 2);
        tell("its key among three", sent.then(x -> {
            x.takeKey(0, 0);
            x.takeKey(0, 5);
            x.takeKey(0, 7);
            x.pass(2);
        }), x -> x.guard(0, 0), 2);
        tell("the key 0", ROW.then(x -> x.addDoor(0, 2, 1, 0)).then(x -> x.takeKey(0, 0)).then(x -> x.go(0, 2, 0))
            .then(x -> x.pass(1)), x -> x.guard(0, 0), 2);
        tell("the key 7", ROW.then(x -> x.addDoor(0, 2, 1, 7)).then(x -> x.takeKey(0, 7)).then(x -> x.go(0, 2, 0))
            .then(x -> x.pass(1)), x -> x.guard(0, 0), 2);
        halt("without the key 0", ROW.then(x -> x.addDoor(0, 2, 1, 0)).then(x -> x.go(0, 2, 0))
            .then(x -> x.pass(1)), 0);
        halt("the key is in the cupboard", sent.then(x -> x.pass(2)), 1);
        halt("another guard has the key", sent.then(x -> x.takeKey(1, 5)).then(x -> x.pass(2)), 1);
        halt("other keys", sent.then(x -> x.takeKey(0, 4)).then(x -> x.takeKey(0, 6)).then(x -> x.pass(2)), 1);
        halt("the key was handed on", PAIR.then(x -> {
            x.addDoor(0, 2, 1, 5);
            x.takeKey(0, 5);
            x.go(0, 2, 0);
            x.handKey(0, 1, 5);
            x.pass(1);
        }), 0);
        halt("no door", ROW.then(x -> x.go(0, 2, 0)).then(x -> x.go(0, 1, 0)).then(x -> x.pass(1)), 0);
        halt("a room without any door", ROW.then(x -> x.addRoom(0, 0)).then(x -> x.go(0, 3, 0))
            .then(x -> x.pass(1)), 0);
        tell("the key counts when the guard sets off, not when the order is given", LOCKED.then(x -> {
            x.addDoor(0, 2, 1, 4);
            x.go(0, 2, 0);
            x.takeKey(0, 4);
            x.pass(1);
        }), x -> x.guard(0, 0), 2);
        tell("a door that was added behind the order", ROW.then(x -> x.go(0, 2, 0)).then(x -> x.addDoor(0, 2, 1, -1))
            .then(x -> x.pass(1)), x -> x.guard(0, 0), 2);
        tell("the guard keeps the keys", sent.then(x -> x.takeKey(0, 5)).then(x -> x.pass(2)), x -> x.holder(5), 0);
    }

    /** Behind one halt: no orders, no stay that is over but by walks, and the guard stands in the room. */
    private void halt(String test, Acts behind, int room) {
        tell(test + ", a halt", behind, x -> x.guard(0, 6), 1);
        tell(test + ", no orders then", behind, x -> x.guard(0, 4), 0);
        refuse(test + ", no order in the first place", behind, x -> x.orderAt(0, 0), NONE);
        tell(test + ", stands there", behind, x -> x.guard(0, 0), room);
        tell(test + ", with no minutes left", behind, x -> x.guard(0, 3), 0);
    }

    private void halts() {
        Acts both = PAIR.then(x -> {
            x.go(0, 2, 0);
            x.go(0, 1, 0);
            x.go(1, 1, 0);
            x.go(1, 2, 7);
            x.pass(1);
        });
        tell("another guard's orders are not dropped", both, x -> x.orderAt(1, 0), 207);
        tell("another guard walks", both, x -> x.guard(1, 0), 1);
        tell("nor is it the other one's halt", both, x -> x.guard(1, 6), 0);
        tell("a door is not used by a halt", LOCKED.then(x -> x.go(0, 1, 0)).then(x -> x.go(0, 2, 0))
            .then(x -> x.pass(2)),
            x -> x.door(1, 4), 0);
        tell("twelve orders are one halt", ROW.then(x -> {
            for (int order = 0; order < 12; order++) {
                x.go(0, 2, 5);
            }
            x.pass(12);
        }), x -> x.guard(0, 6), 1);
        tell("a new order is followed in the next minute", both.then(x -> x.go(0, 1, 0)).then(x -> x.pass(1)),
            x -> x.guard(0, 0), 1);
        says("(An order for the room in which the guard stands is a halt, too.)");
        halt("the guard room", ROW.then(x -> x.go(0, 0, 9)).then(x -> x.go(0, 1, 0)).then(x -> x.pass(1)), 0);
        halt("another room", ROW.then(x -> x.go(0, 1, 0)).then(x -> x.go(0, 1, 9)).then(x -> x.pass(2)), 1);
        tell("it is watched then", ROW.then(x -> x.go(0, 1, 0)).then(x -> x.go(0, 1, 9)).then(x -> x.pass(2)),
            x -> x.room(1, 2), 1);
        tell("it is no arrival", ROW.then(x -> x.go(0, 0, 9)).then(x -> x.pass(1)), x -> x.guard(0, 7), 0);
        tell("it gives no alarm", Museums.row(1).then(x -> {
            x.closeZone(0);
            x.go(0, 1, 0);
            x.go(0, 1, 0);
            x.pass(3);
        }), x -> x.count(7), 1);
    }

    private void minutesToStay() {
        says("For each guard who stood and had minutes left to stay ahead of this step these become less by 1 (so "
            + "such a guard sets off in a later minute).");
        Acts stays = ROW.then(x -> x.go(0, 1, 2)).then(x -> x.go(0, 2, 9)).then(x -> x.pass(1));
        tell("2 at the end of the walk", stays, x -> x.guard(0, 3), 2);
        tell("1 a minute later", stays.then(x -> x.pass(1)), x -> x.guard(0, 3), 1);
        tell("0 two minutes later", stays.then(x -> x.pass(2)), x -> x.guard(0, 3), 0);
        tell("and it still stands there", stays.then(x -> x.pass(2)), x -> x.guard(0, 0), 1);
        tell("it sets off three minutes later", stays.then(x -> x.pass(3)), x -> x.stay(0, 3), 3);
        tell("those of the next stay are all left", stays.then(x -> x.pass(3)), x -> x.guard(0, 3), 9);
        Acts far = ROW.then(x -> x.addDoor(0, 2, 9, -1)).then(x -> x.go(0, 2, 5));
        tell("they do not become less on the walk", far.then(x -> x.pass(9)), x -> x.guard(0, 3), 5);
        tell("they do without an order, too", far.then(x -> x.pass(11)), x -> x.guard(0, 3), 3);
        tell("they do not become less than 0", far.then(x -> x.pass(60)), x -> x.guard(0, 3), 0);
        tell("99 minutes", ROW.then(x -> x.go(0, 1, 99)).then(x -> x.go(0, 0, 0)).then(Museums.pass(100)),
            x -> x.guard(0, 0), 1);
        refuse("and no more", ROW.then(x -> x.addDoor(1, 0, 1, -1)).then(x -> x.addDoor(0, 2, 9, -1))
            .then(x -> x.go(0, 1, 99))
            .then(x -> x.go(0, 0, 0)).then(x -> x.go(0, 2, 0)).then(Museums.pass(102)), x -> x.guard(0, 0), NONE);
        tell("for each guard", PAIR.then(x -> x.go(0, 1, 5)).then(x -> x.go(1, 1, 7)).then(x -> x.pass(4)),
            x -> x.guard(0, 3) * 10 + x.guard(1, 3), 24);
    }

    private void watching() {
        says("2. Each room in which a guard stands is watched in this minute; the others are not.");
        tell("stands", ROW.then(x -> x.pass(1)), x -> x.room(0, 2), 1);
        tell("the others", ROW.then(x -> x.pass(1)), x -> x.room(1, 3), 1);
        Acts leaves = ROW.then(x -> x.addDoor(0, 2, 2, -1)).then(x -> x.pass(1)).then(x -> x.go(0, 2, 0));
        tell("the room from which the guard sets off is not", leaves.then(x -> x.pass(1)), x -> x.room(0, 3), 1);
        tell("the room to which the guard walks is not", leaves.then(x -> x.pass(1)), x -> x.room(2, 3), 2);
        tell("nor in the minute in which the walk ends", leaves.then(x -> x.pass(2)), x -> x.room(2, 3), 3);
        tell("but in the next", leaves.then(x -> x.pass(3)), x -> x.room(2, 2), 1);
        tell("two guards watch it once", PAIR.then(x -> x.pass(1)), x -> x.room(0, 2), 1);
        tell("one of two is enough", PAIR.then(x -> x.go(0, 1, 0)).then(x -> x.pass(1)), x -> x.room(0, 2), 1);
        tell("two rooms at once", PAIR.then(x -> x.go(0, 1, 0)).then(x -> x.pass(2)),
            x -> x.room(0, 2) * 10 + x.room(1, 2), 21);
        tell("the last room", Museums.rooms(11).then(Museums.guards(1)).then(x -> x.addDoor(0, 11, 1, -1))
            .then(x -> x.go(0, 11, 0)).then(x -> x.pass(3)), x -> x.room(11, 2), 2);
        tell("without guards none", Museums.row(0).then(x -> x.pass(1)), x -> x.room(0, 3), 1);
        tell("a guard who halts watches", ROW.then(x -> x.go(0, 2, 0)).then(x -> x.pass(1)), x -> x.room(0, 2), 1);
    }

    private void walking() {
        says("3. For each guard who walks, by number, the minutes left of the walk become less by 1.");
        Acts far = ROW.then(x -> x.addDoor(0, 2, 9, -1)).then(x -> x.go(0, 2, 4)).then(x -> x.pass(1));
        tell("in the minute of setting off, too", far, x -> x.guard(0, 2), 8);
        tell("in the next", far.then(x -> x.pass(1)), x -> x.guard(0, 2), 7);
        tell("the last", far.then(x -> x.pass(7)), x -> x.guard(0, 2), 1);
        tell("for each guard", NIGHT, x -> x.guard(0, 2) * 10 + x.guard(1, 2), 12);
    }

    private void arriving() {
        says("If they are 0 then, the guard stands in the room from the next minute on, with the stay of the order "
            + "left; if this room is in a zone that is closed, there is an alarm for the cause 0.");
        Acts near = ROW.then(x -> x.go(0, 1, 4)).then(x -> x.pass(1));
        tell("stands there", near, x -> x.guard(0, 0), 1);
        tell("with the stay of the order", near, x -> x.guard(0, 3), 4);
        tell("from the next minute on", near.then(x -> x.stop(0)).then(x -> x.go(0, 0, 0)).then(x -> x.pass(1)),
            x -> x.stay(0, 2), 1);
        tell("has arrived", near, x -> x.guard(0, 7), 1);
        tell("the stay is that of its own order", ROW.then(x -> x.go(0, 1, 0)).then(x -> x.go(0, 2, 9))
            .then(x -> x.pass(1)),
            x -> x.guard(0, 3), 0);
        tell("an open zone: no alarm", near, x -> x.count(7), 0);
        Acts closed = PAIR.then(x -> x.closeZone(0)).then(x -> x.go(0, 1, 0));
        answer("a closed zone: an alarm", closed, x -> x.pass(1), 1);
        tell("its cause", closed.then(x -> x.pass(1)), x -> x.alarm(0, 0), 0);
        tell("its room", closed.then(x -> x.pass(1)), x -> x.alarm(0, 1), 1);
        tell("its minute", closed.then(x -> x.pass(1)), x -> x.alarm(0, 2), 0);
        answer("none while it stands there", closed.then(x -> x.pass(1)), x -> x.pass(60), 0);
        answer("none when it leaves for an open one", closed.then(x -> x.pass(1)).then(x -> x.go(0, 2, 0)),
            x -> x.pass(3), 0);
        answer("two guards: two alarms", closed.then(x -> x.go(1, 1, 0)), x -> x.pass(1), 2);
        answer("the guard room is in no zone", closed.then(x -> x.pass(1)).then(x -> x.go(0, 0, 0)), x -> x.pass(3), 0);
        answer("not in the minute of setting off", ROW.then(x -> x.closeZone(1)).then(x -> x.addDoor(0, 2, 2, -1))
            .then(x -> x.go(0, 2, 0)), x -> x.pass(1), 0);
        answer("opened on the way: none", ROW.then(x -> x.closeZone(1)).then(x -> x.addDoor(0, 2, 2, -1))
            .then(x -> x.go(0, 2, 0)).then(x -> x.pass(1)).then(x -> x.openZone(1)), x -> x.pass(1), 0);
        Acts byNumber = PAIR.then(x -> {
            x.addRoom(2, 0);
            x.addDoor(0, 3, 1, -1);
            x.closeZone(0);
            x.go(1, 1, 0);
            x.go(0, 3, 0);
            x.pass(1);
        });
        tell("by number, the first", byNumber, x -> x.alarm(0, 1), 3);
        tell("by number, the second", byNumber, x -> x.alarm(1, 1), 1);
    }

    private void bounds() {
        says("4. For each room with a bound, by number: if the minutes in a row for which it has not been watched "
            + "(with this one) are just bound + 1, there is an alarm for the cause 1.");
        Acts bound = ROW.then(x -> x.setBound(1, 3));
        answer("bound minutes: none", bound, x -> x.pass(3), 0);
        answer("bound + 1: one", bound.then(x -> x.pass(3)), x -> x.pass(1), 1);
        answer("bound + 2: none again", bound.then(x -> x.pass(4)), x -> x.pass(1), 0);
        answer("none for the rest of the night", bound.then(x -> x.pass(4)), x -> Museums.passMany(x, 716), 0);
        tell("its cause", bound.then(x -> x.pass(4)), x -> x.alarm(0, 0), 1);
        tell("its room", bound.then(x -> x.pass(4)), x -> x.alarm(0, 1), 1);
        tell("its minute", bound.then(x -> x.pass(4)), x -> x.alarm(0, 2), 3);
        answer("1", ROW.then(x -> x.setBound(1, 1)), x -> x.pass(2), 1);
        answer("240", ROW.then(x -> x.setBound(1, 240)), x -> Museums.passMany(x, 241), 1);
        answer("240, a minute less", ROW.then(x -> x.setBound(1, 240)), x -> Museums.passMany(x, 240), 0);
        answer("no bound", ROW, x -> Museums.passMany(x, 720), 0);
        Acts watched = bound.then(x -> x.pass(3)).then(x -> {
            x.go(0, 1, 1);
            x.pass(1);
            x.go(0, 0, 0);
            x.pass(2);
        });
        answer("the minute in which a guard comes counts", bound.then(x -> x.pass(3)).then(x -> x.go(0, 1, 1)),
            x -> x.pass(1), 1);
        answer("a guard who comes a minute before is just in time", bound.then(x -> x.pass(2))
            .then(x -> x.go(0, 1, 1)), x -> x.pass(60), 0);
        answer("again when it was watched between: not yet", watched, x -> x.pass(2), 0);
        answer("again when it was watched between", watched, x -> x.pass(3), 1);
        answer("just: not by a lesser bound that was passed already", bound.then(x -> x.pass(2))
            .then(x -> x.setBound(1, 1)), x -> x.pass(60), 0);
        answer("just: by a lesser bound", bound.then(x -> x.pass(2)).then(x -> x.setBound(1, 2)), x -> x.pass(1), 1);
        answer("just: once more by a greater bound", bound.then(x -> x.pass(4)).then(x -> x.setBound(1, 6)),
            x -> x.pass(60), 1);
        answer("a room that was added in this minute counts from now", ROW.then(x -> x.pass(9))
            .then(x -> x.addRoom(0, 3)), x -> x.pass(3), 0);
        answer("and no longer", ROW.then(x -> x.pass(9)).then(x -> x.addRoom(0, 3)), x -> x.pass(4), 1);
        Acts three = Museums.rooms(2).then(x -> {
            x.addRoom(0, 1);
            x.setBound(2, 1);
            x.setBound(1, 1);
            x.pass(2);
        });
        tellRow("by number, alarm", three, (x, alarm) -> x.alarm(alarm, 1), 1, 2, 3, UNKNOWN);
    }

    private void looking() {
        says("5. Each work that is not taken away is looked at, by number; if it was fine and is troubled now, "
            + "there is an alarm for the cause 2.");
        Acts alone = ROW.then(x -> x.addWork(2, 1, 2));
        answer("not troubled yet", alone, x -> x.pass(2), 0);
        answer("troubled now", alone.then(x -> x.pass(2)), x -> x.pass(1), 1);
        answer("it was troubled", alone.then(x -> x.pass(3)), x -> x.pass(60), 0);
        tell("its cause", alone.then(x -> x.pass(3)), x -> x.alarm(0, 0), 2);
        tell("its room", alone.then(x -> x.pass(3)), x -> x.alarm(0, 1), 1);
        tell("its minute", alone.then(x -> x.pass(3)), x -> x.alarm(0, 2), 2);
        answer("taken away", alone.then(x -> x.takeAway(0)), x -> x.pass(60), 0);
        tell("taken away: not looked at", alone.then(x -> x.takeAway(0)).then(x -> x.pass(60)), x -> x.work(0, 3), 2);
        Acts again = alone.then(x -> {
            x.pass(3);
            x.go(0, 1, 1);
            x.pass(2);
        });
        tell("it was troubled and is fine now", again, x -> x.work(0, 3), 0);
        tell("which is no alarm", again, x -> x.count(7), 1);
        answer("troubled again", again.then(x -> x.go(0, 0, 0)), x -> x.pass(3), 1);
        Acts three = ROW.then(x -> {
            x.addWork(2, 2, 0);
            x.addWork(2, 1, 0);
            x.addWork(0, 2, 0);
            x.pass(1);
        });
        tellRow("by number, alarm", three, (x, alarm) -> x.alarm(alarm, 1), 2, 1, 2, UNKNOWN);
        answer("all ten", ROW.then(x -> {
            for (int work = 0; work < 10; work++) {
                x.addWork(2, 1, 0);
            }
        }), x -> x.pass(1), 10);
    }

    private void minuteBecomesGreater() {
        says("6. The minute becomes greater by 1.");
        tell("from 0", NEW.then(x -> x.pass(1)), x -> x.count(0), 1);
        tell("to 720", NEW.then(Museums.pass(719)).then(x -> x.pass(1)), x -> x.count(0), 720);
        tell("behind the alarms", ROW.then(x -> x.addWork(2, 1, 0)).then(x -> x.pass(1)), x -> x.alarm(0, 2), 0);
    }

    private void alarmsNoted() {
        says("An alarm is noted with its cause, its room (that of the work for the cause 2), and the minute that "
            + "passes.");
        Acts three = Museums.ALARMS;
        tellRow("arrival", three, (x, what) -> x.alarm(0, what), 0, 1, 0, NONE, NONE);
        tellRow("bound", three, (x, what) -> x.alarm(1, what), 1, 2, 1, NONE, NONE);
        tellRow("work", three, (x, what) -> x.alarm(2, what), 2, 1, 1, NONE, NONE);
        tell("the room of a work that was moved behind it", three.then(x -> x.moveWork(0, 2)), x -> x.alarm(2, 1), 1);
        tell("the room to which a work was moved ahead of it", ROW.then(x -> {
            x.addWork(2, 1, 3);
            x.go(0, 1, 0);
            x.pass(1);
            x.moveWork(0, 2);
            x.pass(3);
        }), x -> x.alarm(0, 1), 2);
    }

    private void alarmsLost() {
        says("At most 40 alarms are noted in a night, numbered from 0; those behind them are lost, and only "
            + "counted.");
        Acts forty = Museums.crowded(4);
        Acts one = forty.then(x -> x.closeZone(0)).then(x -> x.go(0, 1, 0)).then(x -> x.pass(1));
        tell("40 are noted", forty, x -> x.count(7), 40);
        tell("none of them is lost", forty, x -> x.count(9), 0);
        tell("the last is 39", forty, x -> x.alarm(39, 0), 2);
        refuse("no 40", forty, x -> x.alarm(40, 0), UNKNOWN);
        tell("one more is not noted", one, x -> x.count(7), 40);
        refuse("nor told", one, x -> x.alarm(40, 0), UNKNOWN);
        tell("but counted", one, x -> x.count(9), 1);
        tell("the last stays", one, x -> x.alarm(39, 2), 10);
        tell("the first stays", one, x -> x.alarm(0, 2), 1);
        tell("lost though one is cleared", one.then(x -> x.clearAlarm(0, 0)).then(x -> x.pass(1)), x -> x.count(7), 40);
        tell("those of the night before do not count", forty.then(x -> x.nextNight()).then(x -> x.addWork(2, 1, 0))
            .then(x -> x.pass(1)), x -> x.count(7), 1);
        tell("numbered from 0 again", forty.then(x -> x.nextNight()).then(x -> x.addWork(2, 2, 0)).then(x -> x.pass(1)),
            x -> x.alarm(0, 1), 2);
        tell("undo takes them back", one.then(x -> x.undo()), x -> x.count(9), 0);
    }
}
