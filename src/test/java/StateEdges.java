/** The section Terms: what a state is. Each part of it is kept, undone and restored. */
final class StateEdges extends Edges {
    private static final Acts NEW = Museums.NEW;
    /** Doors from the guard room to the rooms 1, 2 and 3: of 1, 5 and 7 minutes; and from 1 to 2. */
    private static final Acts HOUSE = x -> {
        x.addRoom(0, 0);
        x.addRoom(1, 0);
        x.addRoom(2, 0);
        x.addDoor(0, 1, 1, -1);
        x.addDoor(0, 2, 5, -1);
        x.addDoor(0, 3, 7, -1);
        x.addDoor(1, 2, 1, -1);
        x.openZone(0);
        x.openZone(1);
        x.addGuard();
        x.addGuard();
    };

    @Override
    void run() {
        promise(TERMS);
        says("A state is everything but the text, the history and the snapshot.");
        rooms();
        doors();
        zonesAndKeys();
        guardsWhere();
        guardsWhat();
        works();
        alarms();
        alarmsCleared();
        stays();
        time();
    }

    /**
     * Goes one way (of so many acts, 4 at most), keeps it, goes back and another way: the snapshot and
     * undo know both of them.
     */
    private void part(String test, Acts base, int acts, Acts one, Acts other, Call question, int ofOne, int ofOther) {
        Acts atOne = base.then(one);
        Acts atOther = base.then(other);
        answer(test + ", one way", atOne, question, ofOne);
        answer(test + ", another way", atOther, question, ofOther);
        // what is foretold is worked out in a state, too
        Acts kept = atOne.then(x -> x.alarmsIn(60)).then(x -> x.keep());
        Acts back = kept.then(Museums.undo(acts));
        Acts turned = back.then(other);
        answer(test + ", another way behind undo", turned, question, ofOther);
        Acts restored = turned.then(x -> x.restore());
        answer(test + ", restored", restored, question, ofOne);
        Acts undone = restored.then(x -> x.undo());
        answer(test + ", restored and undone", undone, question, ofOther);
        answer(test + ", restored again", undone.then(x -> x.restore()), question, ofOne);
        sameState(test + ", all behind undo", back, base);
        sameState(test + ", all of another way", turned, atOther);
        sameState(test + ", all that is restored", restored, atOne);
        sameState(test + ", all that is restored and undone", undone, atOther);
    }

    private void rooms() {
        part("rooms", NEW, 2, Museums.rooms(2), Museums.rooms(1), x -> x.count(2), 3, 2);
        part("a room's zone", NEW, 1, x -> x.addRoom(3, 0), x -> x.addRoom(4, 0), x -> x.room(1, 0), 3, 4);
        part("a room's bound", NEW, 1, x -> x.addRoom(3, 7), x -> x.addRoom(3, 8), x -> x.room(1, 1), 7, 8);
        part("a bound that is set", HOUSE, 1, x -> x.setBound(1, 7), x -> x.setBound(1, 8), x -> x.room(1, 1), 7, 8);
        part("minutes watched", HOUSE, 1, x -> x.pass(3), x -> x.pass(5), x -> x.room(0, 2), 3, 5);
        part("minutes not watched", HOUSE, 1, x -> x.pass(3), x -> x.pass(5), x -> x.room(1, 3), 3, 5);
        part("the longest gap", HOUSE, 3, x -> {
            x.pass(7);
            x.go(0, 1, 0);
            x.pass(3);
        }, x -> {
            x.pass(2);
            x.go(0, 1, 0);
            x.pass(3);
        }, x -> x.room(1, 4), 8, 3);
        part("minutes watched this night", HOUSE, 3, x -> {
            x.go(0, 1, 3);
            x.go(0, 0, 0);
            x.pass(6);
        }, x -> {
            x.go(0, 1, 4);
            x.go(0, 0, 0);
            x.pass(6);
        }, x -> x.room(1, 5), 3, 4);
    }

    private void doors() {
        Acts four = Museums.rooms(3);
        part("doors", four, 1, x -> x.addDoor(0, 1, 1, -1), x -> {
            x.addDoor(0, 1, 1, -1);
            x.addDoor(0, 2, 1, -1);
        }, x -> x.count(3), 1, 2);
        part("a door's one room", four, 1, x -> x.addDoor(0, 1, 1, -1), x -> x.addDoor(2, 1, 1, -1),
            x -> x.door(0, 0), 0, 2);
        part("its other room", four, 1, x -> x.addDoor(0, 1, 1, -1), x -> x.addDoor(0, 2, 1, -1),
            x -> x.door(0, 1), 1, 2);
        part("its minutes", four, 1, x -> x.addDoor(0, 1, 3, -1), x -> x.addDoor(0, 1, 4, -1), x -> x.door(0, 2), 3, 4);
        part("its key", four, 1, x -> x.addDoor(0, 1, 1, 3), x -> x.addDoor(0, 1, 1, 4), x -> x.door(0, 3), 3, 4);
        part("its uses", HOUSE, 2, x -> {
            x.go(0, 1, 0);
            x.pass(1);
        }, x -> {
            x.go(0, 1, 0);
            x.go(1, 1, 0);
            x.pass(1);
        }, x -> x.door(0, 4), 1, 2);
    }

    private void zonesAndKeys() {
        part("open zones", NEW, 1, x -> x.openZone(2), x -> x.openZone(3), x -> x.zone(2, 0), 1, 0);
        part("zones that exclude one another", NEW, 1, x -> x.exclude(2, 3, true), x -> x.exclude(2, 4, true),
            x -> x.zone(2, 1), 8, 16);
        part("who has a key", HOUSE, 1, x -> x.takeKey(0, 5), x -> x.takeKey(1, 5), x -> x.holder(5), 0, 1);
        part("a key in the cupboard", HOUSE, 1, x -> x.takeKey(0, 5), x -> x.takeKey(0, 6), x -> x.holder(5), 0, NONE);
    }

    private static Acts sent(int room, int stay, int minutes) {
        return x -> {
            x.go(0, room, stay);
            x.pass(minutes);
        };
    }

    private void guardsWhere() {
        part("guards", NEW, 1, Museums.guards(1), Museums.guards(2), x -> x.count(4), 1, 2);
        part("a guard's room", HOUSE, 2, sent(1, 0, 1), sent(2, 0, 5), x -> x.guard(0, 0), 1, 2);
        part("a guard who walks or stands", HOUSE, 2, sent(2, 0, 4), sent(2, 0, 5), x -> x.guard(0, 0), NONE, 2);
        part("the room to which a guard walks", HOUSE, 2, sent(2, 0, 2), sent(3, 0, 2), x -> x.guard(0, 1), 2, 3);
        part("the minutes left of the walk", HOUSE, 2, sent(2, 0, 1), sent(2, 0, 2), x -> x.guard(0, 2), 4, 3);
        part("the minutes left to stay", HOUSE, 2, sent(1, 9, 1), sent(1, 8, 1), x -> x.guard(0, 3), 9, 8);
        part("the stay of the order of a walk", HOUSE, 2, sent(2, 9, 1), sent(2, 8, 1), x -> {
            x.pass(4);
            return x.guard(0, 3);
        }, 9, 8);
        part("the minute from which a guard stands", HOUSE, 2, sent(1, 0, 1), x -> {
            x.pass(3);
            sent(1, 0, 1).on(x);
        }, x -> {
            x.go(0, 0, 0);
            x.pass(1);
            return x.stay(0, 2);
        }, 1, 4);
    }

    private void guardsWhat() {
        part("halts", HOUSE, 2, sent(0, 0, 1), x -> {
            sent(0, 0, 1).on(x);
            sent(0, 0, 1).on(x);
        }, x -> x.guard(0, 6), 1, 2);
        part("arrivals", HOUSE, 2, sent(1, 0, 1), x -> {
            x.go(0, 1, 0);
            x.go(0, 0, 0);
            x.pass(2);
        }, x -> x.guard(0, 7), 1, 2);
        part("orders", HOUSE, 1, x -> x.go(0, 1, 5), x -> x.go(0, 1, 6), x -> x.orderAt(0, 0), 105, 106);
        part("how many orders", HOUSE, 1, x -> x.go(0, 1, 5), x -> {
            x.go(0, 1, 5);
            x.go(0, 0, 6);
        }, x -> x.guard(0, 4), 1, 2);
        part("orders that are dropped", HOUSE, 1, x -> x.go(1, 1, 5), x -> {
            x.go(1, 1, 5);
            x.stop(1);
        }, x -> x.guard(1, 4), 1, 0);
    }

    private static Acts work(int kind, int room, int limit, int minutes) {
        return x -> {
            x.addWork(kind, room, limit);
            x.pass(minutes);
        };
    }

    private void works() {
        part("works", HOUSE, 1, x -> x.addWork(0, 1, 5), x -> {
            x.addWork(0, 1, 5);
            x.addWork(0, 1, 5);
        }, x -> x.count(5), 1, 2);
        part("a work's kind", HOUSE, 1, x -> x.addWork(0, 1, 5), x -> x.addWork(1, 1, 5), x -> x.work(0, 0), 0, 1);
        part("its room", HOUSE, 1, x -> x.addWork(0, 1, 5), x -> x.addWork(0, 2, 5), x -> x.work(0, 1), 1, 2);
        part("its limit", HOUSE, 1, x -> x.addWork(0, 1, 5), x -> x.addWork(0, 1, 6), x -> x.work(0, 2), 5, 6);
        part("its state", HOUSE, 2, work(2, 1, 2, 3), work(2, 1, 3, 3), x -> x.work(0, 3), 1, 0);
        part("taken away", HOUSE, 2, x -> {
            x.addWork(2, 1, 5);
            x.takeAway(0);
        }, x -> x.addWork(2, 1, 5), x -> x.work(0, 3), 2, 0);
        part("its alarms", HOUSE, 2, work(2, 1, 0, 1), x -> {
            work(2, 1, 0, 1).on(x);
            x.go(0, 1, 1);
            x.go(0, 0, 0);
            x.pass(3);
        }, x -> x.work(0, 4), 1, 2);
    }

    private void alarms() {
        part("alarms", HOUSE, 2, work(2, 1, 0, 1), x -> {
            x.addWork(2, 1, 0);
            work(2, 1, 0, 1).on(x);
        }, x -> x.count(7), 1, 2);
        part("an alarm's cause", HOUSE, 2, work(2, 1, 1, 2), x -> {
            x.setBound(1, 1);
            x.pass(2);
        }, x -> x.alarm(0, 0), 2, 1);
        part("its room", HOUSE, 2, work(2, 1, 0, 1), work(2, 2, 0, 1), x -> x.alarm(0, 1), 1, 2);
        part("its minute", HOUSE, 2, work(2, 1, 1, 9), work(2, 1, 3, 9), x -> x.alarm(0, 2), 1, 3);
        part("lost ones", Museums.crowded(4), 3, Museums::visit, x -> {
            Museums.visit(x);
            Museums.visit(x);
        }, x -> x.count(9), 10, 20);
    }

    private void alarmsCleared() {
        Acts alarmed = HOUSE.then(work(2, 1, 0, 1)).then(x -> {
            x.go(0, 1, 0);
            x.go(1, 1, 0);
            x.pass(1);
        });
        part("an alarm that is cleared", alarmed, 1, x -> x.clearAlarm(0, 0), x -> x.stop(0), x -> x.count(8), 0, 1);
        part("the guard who cleared it", alarmed, 1, x -> x.clearAlarm(0, 0), x -> x.clearAlarm(0, 1),
            x -> x.alarm(0, 3), 0, 1);
        part("the minute in which it was cleared", alarmed, 1, x -> x.clearAlarm(0, 0), x -> {
            x.pass(2);
            x.clearAlarm(0, 0);
        }, x -> x.alarm(0, 4), 2, 4);
    }

    private void stays() {
        part("stays", HOUSE, 2, sent(1, 0, 1), x -> x.pass(1), x -> x.count(12), 1, 0);
        part("the guard of a stay", HOUSE, 2, sent(1, 0, 1), x -> {
            x.go(1, 1, 0);
            x.pass(1);
        }, x -> x.stay(0, 0), 0, 1);
        Acts two = x -> {
            x.go(0, 1, 0);
            x.go(0, 2, 0);
            x.pass(2);
        };
        part("its room", HOUSE, 2, sent(1, 0, 2), two, x -> x.stay(0, 1), 0, 1);
        part("the minute from which", HOUSE, 2, sent(1, 0, 2), two, x -> x.stay(0, 2), 0, 1);
        part("the minute up to which", HOUSE, 2, sent(1, 0, 2), two, x -> x.stay(0, 3), 0, 1);
        part("the minutes in which a room was watched", HOUSE, 2, sent(1, 0, 5), x -> {
            x.pass(3);
            sent(1, 0, 2).on(x);
        }, x -> x.gap(1, 0, 5), 1, 4);
    }

    private void time() {
        part("the minute", HOUSE, 1, x -> x.pass(3), x -> x.pass(4), x -> x.count(0), 3, 4);
        part("the nights", HOUSE, 1, x -> x.nextNight(), x -> {
            x.nextNight();
            x.nextNight();
        }, x -> x.count(1), 1, 2);
        Acts late = HOUSE.then(Museums.pass(717));
        part("the last minute of a night", late, 2, sent(1, 0, 3), x -> {
            x.pass(1);
            sent(1, 0, 2).on(x);
        }, x -> x.gap(1, 718, 720), 0, 1);
        part("the last minute of a night, not watched", late, 1, x -> x.pass(3), sent(1, 0, 3),
            x -> x.gap(1, 719, 720), 1, 0);
        part("a night that is over", HOUSE, 3, x -> {
            sent(1, 0, 9).on(x);
            x.nextNight();
        }, sent(1, 0, 9), x -> x.count(0), 0, 9);
    }
}
