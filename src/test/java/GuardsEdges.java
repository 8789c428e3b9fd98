/** Promises 8 to 13: guards, keys and orders. */
final class GuardsEdges extends Edges {
    private static final Acts NIGHT = Museums.NIGHT;
    private static final Acts ALONE = Museums.row(1);
    private static final Acts PAIR = Museums.row(2);

    @Override
    void run() {
        addGuard();
        takeKey();
        takeKeyErrors();
        bringKey();
        bringKeyErrors();
        handKey();
        handKeyReturns();
        handKeyErrors();
        go();
        goErrors();
        stop();
        stopErrors();
    }

    private static Acts takes(int guard, int... keys) {
        return x -> {
            for (int key : keys) {
                x.takeKey(guard, key);
            }
        };
    }

    /** The guard sets off for room 1 and stands there a minute later. */
    private static Acts goes(int guard) {
        return x -> {
            x.go(guard, 1, 0);
            x.pass(1);
        };
    }

    private static Acts orders(int guard, int orders) {
        return x -> {
            for (int order = 0; order < orders; order++) {
                x.go(guard, order % 3, order);
            }
        };
    }

    private void addGuard() {
        promise(8);
        says("Adds a guard. This is an act.");
        act("in a new museum", Museums.NEW, x -> x.addGuard(), 0);
        act("during a night", NIGHT, x -> x.addGuard(), 3);
        tellRow("the guard", NIGHT.then(x -> x.addGuard()),
            (x, what) -> x.guard(3, what), 0, NONE, NONE, 0, 0, 0, 0, 0);
        Acts gone = Museums.row(0).then(x -> {
            x.keep();
            x.addGuard();
            x.go(0, 0, 0);
            x.pass(1);
            x.takeKey(0, 3);
            x.go(0, 1, 9);
            x.go(0, 2, 9);
            x.go(0, 1, 9);
            x.pass(12);
            x.restore();
        });
        tellRow("the guard in place of one that is not there any more", gone.then(x -> x.addGuard()),
            (x, what) -> x.guard(0, what), 0, NONE, NONE, 0, 0, 0, 0, 0);
        tell("its stay begins now", gone.then(x -> x.pass(5)).then(x -> x.addGuard()).then(x -> x.go(0, 1, 0))
            .then(x -> x.pass(1)), x -> x.stay(0, 2), 5);
        says("Returns the guard's number;");
        act("the first", Museums.NEW, x -> x.addGuard(), 0);
        act("the last", Museums.guards(3), x -> x.addGuard(), 3);
        act("the number of one that was undone", Museums.guards(4).then(x -> x.undo()), x -> x.addGuard(), 3);
        says("FULL if there are 4.");
        refuse("with 4", Museums.guards(4), x -> x.addGuard(), FULL);
        refuse("with 4 in the next night", Museums.guards(4).then(x -> x.nextNight()), x -> x.addGuard(), FULL);
        tell("there are 4 then", Museums.guards(4).then(x -> x.addGuard()), x -> x.count(4), 4);
    }

    private void takeKey() {
        promise(9);
        says("Signs a key out to a guard. This is an act.");
        act("during a night", NIGHT, x -> x.takeKey(2, 7), 1);
        tell("its holder", NIGHT.then(takes(2, 7)), x -> x.holder(7), 2);
        tell("the others stay", NIGHT.then(takes(2, 7)), x -> x.holder(6), NONE);
        says("`guard`: a guard");
        act("the first", PAIR, x -> x.takeKey(0, 4), 1);
        act("the last", PAIR, x -> x.takeKey(1, 4), 1);
        act("the last of four", Museums.row(4), x -> x.takeKey(3, 4), 1);
        refuseOutside("guard", 0, 1, PAIR, (x, guard) -> x.takeKey(guard, 4), UNKNOWN);
        says("`key`: 0 to 7");
        act("0", PAIR, x -> x.takeKey(1, 0), 1);
        act("7", PAIR, x -> x.takeKey(1, 7), 1);
        tell("0 is told", PAIR.then(takes(1, 0)), x -> x.guard(1, 5), 1);
        tell("7 is told", PAIR.then(takes(1, 7)), x -> x.guard(1, 5), 128);
        refuseOutside("key", 0, 7, PAIR, (x, key) -> x.takeKey(0, key), UNKNOWN);
        says("Returns the number of keys that the guard has then;");
        act("1", PAIR, x -> x.takeKey(0, 5), 1);
        act("2", PAIR.then(takes(0, 5)), x -> x.takeKey(0, 0), 2);
        act("3", PAIR.then(takes(0, 5, 0)), x -> x.takeKey(0, 7), 3);
        act("those of another guard do not count", PAIR.then(takes(0, 5, 0, 7)), x -> x.takeKey(1, 3), 1);
        act("those that were brought do not count", PAIR.then(takes(0, 5)).then(x -> x.bringKey(0, 5)),
            x -> x.takeKey(0, 5), 1);
    }

    private void takeKeyErrors() {
        Acts three = PAIR.then(takes(0, 0, 1, 2));
        says("UNKNOWN (guard or key);");
        refuse("no guard at all", Museums.NEW, x -> x.takeKey(0, 0), UNKNOWN);
        refuse("guard 2 of two", PAIR, x -> x.takeKey(2, 0), UNKNOWN);
        refuse("key 8", PAIR, x -> x.takeKey(0, 8), UNKNOWN);
        refuse("key -1", PAIR, x -> x.takeKey(0, -1), UNKNOWN);
        refuse("no guard, ahead of a key that is out", three, x -> x.takeKey(2, 0), UNKNOWN);
        refuse("no key, ahead of another room", PAIR.then(goes(0)), x -> x.takeKey(0, 8), UNKNOWN);
        refuse("no key, ahead of a walk", NIGHT, x -> x.takeKey(0, -1), UNKNOWN);
        refuse("no key, ahead of FULL", three, x -> x.takeKey(0, 8), UNKNOWN);
        says("NOT_POSSIBLE if the guard does not stand in the guard room, or the key is not in the cupboard;");
        refuse("walks to another room", NIGHT, x -> x.takeKey(0, 7), NOT_POSSIBLE);
        refuse("stands in another room", PAIR.then(goes(0)), x -> x.takeKey(0, 7), NOT_POSSIBLE);
        Acts returns = PAIR.then(x -> x.addDoor(0, 2, 2, -1)).then(x -> x.go(0, 2, 0)).then(x -> x.go(0, 0, 0));
        refuse("a minute ahead of the guard room", returns.then(x -> x.pass(3)), x -> x.takeKey(0, 7), NOT_POSSIBLE);
        act("in the guard room again", returns.then(x -> x.pass(4)), x -> x.takeKey(0, 7), 1);
        act("just ahead of setting off", PAIR.then(x -> x.go(0, 1, 0)), x -> x.takeKey(0, 7), 1);
        refuse("another guard has it", PAIR.then(takes(1, 7)), x -> x.takeKey(0, 7), NOT_POSSIBLE);
        refuse("the guard has it", PAIR.then(takes(0, 7)), x -> x.takeKey(0, 7), NOT_POSSIBLE);
        act("brought back", PAIR.then(takes(1, 7)).then(x -> x.bringKey(1, 7)), x -> x.takeKey(0, 7), 1);
        refuse("another room, ahead of FULL", three.then(goes(0)), x -> x.takeKey(0, 7), NOT_POSSIBLE);
        refuse("the guard has it, ahead of FULL", three, x -> x.takeKey(0, 2), NOT_POSSIBLE);
        refuse("another has it, ahead of FULL", three.then(takes(1, 5)), x -> x.takeKey(0, 5), NOT_POSSIBLE);
        says("FULL if the guard has 3.");
        refuse("a fourth", three, x -> x.takeKey(0, 3), FULL);
        act("the third", PAIR.then(takes(0, 0, 1)), x -> x.takeKey(0, 3), 3);
        act("the third again", three.then(x -> x.bringKey(0, 1)), x -> x.takeKey(0, 3), 3);
        act("by another guard who has none", three, x -> x.takeKey(1, 3), 1);
        refuse("handed on", PAIR.then(takes(0, 0, 1)).then(takes(1, 2)).then(x -> x.handKey(1, 0, 2)),
            x -> x.takeKey(0, 3), FULL);
    }

    private void bringKey() {
        promise(10);
        Acts three = PAIR.then(takes(0, 0, 3, 7));
        says("Brings a key back into the cupboard. This is an act.");
        act("during a night", NIGHT.then(takes(2, 7)), x -> x.bringKey(2, 7), 0);
        tell("its holder", three.then(x -> x.bringKey(0, 3)), x -> x.holder(3), NONE);
        tell("the others stay", three.then(x -> x.bringKey(0, 3)), x -> x.guard(0, 5), 129);
        says("`guard`: a guard");
        act("the first", three, x -> x.bringKey(0, 0), 2);
        act("the last of four", Museums.row(4).then(takes(3, 6)), x -> x.bringKey(3, 6), 0);
        refuseOutside("guard", 0, 1, three, (x, guard) -> x.bringKey(guard, 0), UNKNOWN);
        says("`key`: 0 to 7");
        act("0", three, x -> x.bringKey(0, 0), 2);
        act("7", three, x -> x.bringKey(0, 7), 2);
        refuseOutside("key", 0, 7, three, (x, key) -> x.bringKey(0, key), UNKNOWN);
        says("Returns the number of keys that the guard has then;");
        act("2", three, x -> x.bringKey(0, 3), 2);
        act("1", PAIR.then(takes(0, 3, 4)), x -> x.bringKey(0, 3), 1);
        act("0", PAIR.then(takes(0, 3)).then(takes(1, 4, 5)), x -> x.bringKey(0, 3), 0);
    }

    private void bringKeyErrors() {
        Acts one = PAIR.then(takes(0, 3));
        says("UNKNOWN (guard or key);");
        refuse("no guard at all", Museums.NEW, x -> x.bringKey(0, 0), UNKNOWN);
        refuse("guard 2 of two, the key in the cupboard", one, x -> x.bringKey(2, 4), UNKNOWN);
        refuse("guard NONE, the key in the cupboard", one, x -> x.bringKey(NONE, 4), UNKNOWN);
        refuse("key 8, in another room", one.then(goes(0)), x -> x.bringKey(0, 8), UNKNOWN);
        refuse("key -1, while walking", NIGHT, x -> x.bringKey(0, -1), UNKNOWN);
        says("NOT_POSSIBLE if the guard does not stand in the guard room, or does not have the key.");
        refuse("walks", NIGHT, x -> x.bringKey(0, 3), NOT_POSSIBLE);
        refuse("stands in another room", one.then(goes(0)), x -> x.bringKey(0, 3), NOT_POSSIBLE);
        refuse("the key is in the cupboard", one, x -> x.bringKey(0, 4), NOT_POSSIBLE);
        refuse("another guard has it", one, x -> x.bringKey(1, 3), NOT_POSSIBLE);
        refuse("brought already", one.then(x -> x.bringKey(0, 3)), x -> x.bringKey(0, 3), NOT_POSSIBLE);
        refuse("handed on", one.then(x -> x.handKey(0, 1, 3)), x -> x.bringKey(0, 3), NOT_POSSIBLE);
        act("by the one to whom it was handed", one.then(x -> x.handKey(0, 1, 3)), x -> x.bringKey(1, 3), 0);
        Acts returns = one.then(x -> x.go(0, 1, 0)).then(x -> x.go(0, 0, 0));
        refuse("not yet in the guard room", returns.then(x -> x.pass(1)), x -> x.bringKey(0, 3), NOT_POSSIBLE);
        act("in the guard room again", returns.then(x -> x.pass(2)), x -> x.bringKey(0, 3), 0);
    }

    private void handKey() {
        promise(11);
        Acts one = PAIR.then(takes(0, 3));
        says("Hands a key on. This is an act.");
        act("in the guard room", one, x -> x.handKey(0, 1, 3), 1);
        tell("its holder", one.then(x -> x.handKey(0, 1, 3)), x -> x.holder(3), 1);
        tell("the first has it not", one.then(x -> x.handKey(0, 1, 3)), x -> x.guard(0, 5), 0);
        act("in another room", one.then(goes(0)).then(goes(1)), x -> x.handKey(0, 1, 3), 1);
        act("and back", one.then(x -> x.handKey(0, 1, 3)), x -> x.handKey(1, 0, 3), 1);
        says("`guard`: a guard");
        act("the first", one, x -> x.handKey(0, 1, 3), 1);
        act("the last of four", Museums.row(4).then(takes(3, 3)), x -> x.handKey(3, 0, 3), 1);
        refuseOutside("guard", 0, 1, one, (x, guard) -> x.handKey(guard, 1, 3), UNKNOWN);
        says("`other`: a guard");
        act("the first", PAIR.then(takes(1, 3)), x -> x.handKey(1, 0, 3), 1);
        act("the last of four", Museums.row(4).then(takes(0, 3)), x -> x.handKey(0, 3, 3), 1);
        refuseOutside("other", 0, 1, one, (x, other) -> x.handKey(0, other, 3), UNKNOWN);
        says("`key`: 0 to 7");
        act("0", PAIR.then(takes(0, 0)), x -> x.handKey(0, 1, 0), 1);
        act("7", PAIR.then(takes(0, 7)), x -> x.handKey(0, 1, 7), 1);
        refuseOutside("key", 0, 7, one, (x, key) -> x.handKey(0, 1, key), UNKNOWN);
    }

    private void handKeyReturns() {
        says("Returns the number of keys that the other one has then;");
        Acts both = PAIR.then(takes(0, 0, 1, 2));
        act("1", both, x -> x.handKey(0, 1, 2), 1);
        act("2", both.then(takes(1, 7)), x -> x.handKey(0, 1, 0), 2);
        act("3", both.then(takes(1, 7, 5)), x -> x.handKey(0, 1, 1), 3);
        says("FULL if the other one has 3.");
        Acts full = both.then(takes(1, 5, 6, 7));
        refuse("a fourth", full, x -> x.handKey(0, 1, 1), FULL);
        refuse("a fourth, the other way", full, x -> x.handKey(1, 0, 7), FULL);
        act("the third", full.then(x -> x.bringKey(1, 6)), x -> x.handKey(0, 1, 1), 3);
        act("the first one may have 3", both, x -> x.handKey(0, 1, 1), 1);
    }

    private void handKeyErrors() {
        Acts one = PAIR.then(takes(0, 3));
        Acts full = PAIR.then(takes(0, 0, 1, 2)).then(takes(1, 5, 6, 7));
        says("UNKNOWN (guard, other or key);");
        refuse("no guard at all", Museums.NEW, x -> x.handKey(0, 1, 3), UNKNOWN);
        refuse("guard 2", one, x -> x.handKey(2, 1, 3), UNKNOWN);
        refuse("other 2", one, x -> x.handKey(0, 2, 3), UNKNOWN);
        refuse("key 8", one, x -> x.handKey(0, 1, 8), UNKNOWN);
        refuse("both the same, ahead of BAD_VALUE", one, x -> x.handKey(2, 2, 3), UNKNOWN);
        refuse("key, ahead of BAD_VALUE", one, x -> x.handKey(0, 0, 8), UNKNOWN);
        refuse("key, ahead of NOT_POSSIBLE", one.then(goes(0)), x -> x.handKey(0, 1, -1), UNKNOWN);
        refuse("other, ahead of a key that it has not", one, x -> x.handKey(0, 2, 4), UNKNOWN);
        refuse("key, ahead of FULL", full, x -> x.handKey(0, 1, 8), UNKNOWN);
        says("BAD_VALUE if both guards are the same;");
        refuse("has the key", one, x -> x.handKey(0, 0, 3), BAD_VALUE);
        refuse("ahead of NOT_POSSIBLE, has it not", one, x -> x.handKey(1, 1, 3), BAD_VALUE);
        refuse("ahead of NOT_POSSIBLE, walks", NIGHT, x -> x.handKey(0, 0, 3), BAD_VALUE);
        refuse("ahead of FULL", full, x -> x.handKey(0, 0, 2), BAD_VALUE);
        says("NOT_POSSIBLE if they do not both stand in the same room, or the guard does not have the key;");
        refuse("in two rooms", one.then(goes(0)), x -> x.handKey(0, 1, 3), NOT_POSSIBLE);
        refuse("in two rooms, the other one is elsewhere", one.then(goes(1)), x -> x.handKey(0, 1, 3), NOT_POSSIBLE);
        Acts far = one.then(x -> x.addRoom(2, 0)).then(x -> x.addDoor(0, 3, 5, -1));
        Acts together = far.then(x -> x.go(0, 3, 0)).then(x -> x.go(1, 3, 0));
        refuse("both walk to the same room", together.then(x -> x.pass(4)), x -> x.handKey(0, 1, 3), NOT_POSSIBLE);
        act("both have come to the same room", together.then(x -> x.pass(5)), x -> x.handKey(0, 1, 3), 1);
        Acts one3 = far.then(x -> x.go(0, 3, 0)).then(x -> x.pass(1));
        refuse("just the first one walks", one3, x -> x.handKey(0, 1, 3), NOT_POSSIBLE);
        Acts other3 = far.then(x -> x.go(1, 3, 0)).then(x -> x.pass(1));
        refuse("just the other one walks", other3, x -> x.handKey(0, 1, 3), NOT_POSSIBLE);
        refuse("the key is in the cupboard", one, x -> x.handKey(0, 1, 4), NOT_POSSIBLE);
        refuse("the other one has it", one, x -> x.handKey(1, 0, 3), NOT_POSSIBLE);
        refuse("a third one has it", Museums.row(3).then(takes(2, 3)), x -> x.handKey(0, 1, 3), NOT_POSSIBLE);
        refuse("two rooms, ahead of FULL", full.then(goes(0)), x -> x.handKey(0, 1, 1), NOT_POSSIBLE);
        refuse("has it not, ahead of FULL", full, x -> x.handKey(0, 1, 3), NOT_POSSIBLE);
        refuse("the other one has it, ahead of FULL", full, x -> x.handKey(0, 1, 5), NOT_POSSIBLE);
    }

    private void go() {
        promise(12);
        says("Gives a guard an order behind the others. This is an act.");
        act("the first", NIGHT.then(x -> x.stop(2)), x -> x.go(2, 1, 0), 1);
        act("while walking", NIGHT, x -> x.go(1, 0, 0), 2);
        tell("behind the others", PAIR.then(orders(0, 2)).then(x -> x.go(0, 2, 77)), x -> x.orderAt(0, 2), 277);
        tell("the others stay", PAIR.then(orders(0, 2)).then(x -> x.go(0, 2, 77)), x -> x.orderAt(0, 1), 101);
        tell("for no other guard", PAIR.then(orders(0, 2)), x -> x.guard(1, 4), 0);
        says("`guard`: a guard");
        act("the first", PAIR, x -> x.go(0, 1, 0), 1);
        act("the last of four", Museums.row(4), x -> x.go(3, 1, 0), 1);
        refuseOutside("guard", 0, 1, PAIR, (x, guard) -> x.go(guard, 1, 0), UNKNOWN);
        says("`room`: a room");
        act("the guard room", PAIR, x -> x.go(1, 0, 0), 1);
        act("the last", PAIR, x -> x.go(1, 2, 0), 1);
        act("one to which no door leads", PAIR.then(x -> x.addRoom(0, 0)), x -> x.go(1, 3, 0), 1);
        refuseOutside("room", 0, 2, PAIR, (x, room) -> x.go(1, room, 0), UNKNOWN);
        says("`stay`: 0 to 99");
        act("0", PAIR, x -> x.go(1, 1, 0), 1);
        act("99", PAIR, x -> x.go(1, 1, 99), 1);
        tell("0 is told", PAIR.then(x -> x.go(1, 1, 0)), x -> x.orderAt(1, 0), 100);
        tell("99 is told", PAIR.then(x -> x.go(1, 1, 99)), x -> x.orderAt(1, 0), 199);
        refuseOutside("stay", 0, 99, PAIR, (x, stay) -> x.go(1, 1, stay), BAD_VALUE);
    }

    private void goErrors() {
        Acts twelve = PAIR.then(orders(1, 12));
        says("Returns the number of orders that the guard has then;");
        act("1", PAIR, x -> x.go(1, 1, 0), 1);
        act("12", PAIR.then(orders(1, 11)), x -> x.go(1, 1, 0), 12);
        act("those of another guard do not count", twelve, x -> x.go(0, 1, 0), 1);
        act("the one by which the guard walks does not count", NIGHT, x -> x.go(0, 1, 0), 1);
        says("UNKNOWN (guard or room);");
        refuse("no guard at all", Museums.NEW, x -> x.go(0, 0, 0), UNKNOWN);
        refuse("room 3", PAIR, x -> x.go(1, 3, 0), UNKNOWN);
        refuse("guard, ahead of BAD_VALUE", PAIR, x -> x.go(2, 1, 100), UNKNOWN);
        refuse("room, ahead of BAD_VALUE", PAIR, x -> x.go(1, 3, -1), UNKNOWN);
        refuse("room, ahead of FULL", twelve, x -> x.go(1, -1, 0), UNKNOWN);
        says("BAD_VALUE;");
        refuse("just below", PAIR, x -> x.go(1, 1, -1), BAD_VALUE);
        refuse("just above", PAIR, x -> x.go(1, 1, 100), BAD_VALUE);
        refuse("ahead of FULL", twelve, x -> x.go(1, 1, 100), BAD_VALUE);
        says("FULL if the guard has 12.");
        refuse("a thirteenth", twelve, x -> x.go(1, 1, 0), FULL);
        tell("the last one stays", twelve.then(x -> x.go(1, 1, 0)), x -> x.orderAt(1, 11), 211);
        Acts walks = PAIR.then(x -> x.go(1, 1, 0)).then(orders(1, 11)).then(x -> x.pass(1));
        act("one more when one is removed", walks, x -> x.go(1, 2, 9), 12);
        act("again after stop", twelve.then(x -> x.stop(1)), x -> x.go(1, 2, 9), 1);
    }

    private void stop() {
        promise(13);
        says("Drops all orders of a guard, who also has no minutes left to stay then; a walk goes on, and the stay "
            + "of its order counts when it ends. This is an act.");
        Acts stays = PAIR.then(x -> x.go(0, 1, 5)).then(x -> x.go(0, 0, 1)).then(x -> x.pass(3));
        act("while standing", stays, x -> x.stop(0), 1);
        tell("no orders then", stays.then(x -> x.stop(0)), x -> x.guard(0, 4), 0);
        tell("no order in the first place", stays.then(x -> x.stop(0)), x -> x.orderAt(0, 0), NONE);
        tell("no minutes left to stay", stays.then(x -> x.stop(0)), x -> x.guard(0, 3), 0);
        tell("it stays where it is", stays.then(x -> x.stop(0)).then(x -> x.pass(9)), x -> x.guard(0, 0), 1);
        tell("a new order is followed at once", stays.then(x -> x.stop(0)).then(x -> x.go(0, 2, 0))
            .then(x -> x.pass(1)),
            x -> x.guard(0, 0), 2);
        act("while walking", NIGHT, x -> x.stop(1), 1);
        tell("the walk goes on", NIGHT.then(x -> x.stop(1)), x -> x.guard(1, 2), 2);
        tell("it ends in time", NIGHT.then(x -> x.stop(1)).then(x -> x.pass(2)), x -> x.guard(1, 0), 3);
        tell("with the stay of its order", NIGHT.then(x -> x.stop(1)).then(x -> x.pass(2)), x -> x.guard(1, 3), 5);
        tell("no order behind it", NIGHT.then(x -> x.stop(1)).then(x -> x.pass(20)), x -> x.guard(1, 0), 3);
        tell("another guard keeps the orders", NIGHT.then(x -> x.stop(1)), x -> x.guard(2, 4), 1);
        says("`guard`: a guard");
        act("the first", PAIR.then(orders(0, 1)), x -> x.stop(0), 1);
        act("the last of four", Museums.row(4).then(orders(3, 1)), x -> x.stop(3), 1);
        says("Returns how many orders are dropped;");
        act("0, with a minute left to stay", ALONE.then(x -> x.go(0, 1, 1)).then(x -> x.pass(1)), x -> x.stop(0), 0);
        act("1", PAIR.then(orders(0, 1)), x -> x.stop(0), 1);
        act("12", PAIR.then(orders(0, 12)), x -> x.stop(0), 12);
    }

    private void stopErrors() {
        says("UNKNOWN;");
        refuseOutside("guard", 0, 2, NIGHT, (x, guard) -> x.stop(guard), UNKNOWN);
        refuse("no guard at all", Museums.NEW, x -> x.stop(0), UNKNOWN);
        says("NONE if there are no orders and no minutes left to stay.");
        refuse("at first", PAIR, x -> x.stop(0), NONE);
        refuse("walking without an order", NIGHT, x -> x.stop(0), NONE);
        refuse("stopped already", PAIR.then(orders(0, 5)).then(x -> x.stop(0)), x -> x.stop(0), NONE);
        Acts stays = ALONE.then(x -> x.go(0, 1, 2));
        act("the last minute of a stay", stays.then(x -> x.pass(2)), x -> x.stop(0), 0);
        refuse("the minutes to stay are over", stays.then(x -> x.pass(3)), x -> x.stop(0), NONE);
        refuse("orders of another guard", PAIR.then(orders(1, 5)), x -> x.stop(0), NONE);
        refuse("all orders dropped by a halt", PAIR.then(orders(0, 5)).then(x -> x.pass(1)), x -> x.stop(0), NONE);
    }
}
