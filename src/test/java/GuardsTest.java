/** Promises 8 to 13: guards, keys and orders. */
public final class GuardsTest {
    private GuardsTest() {
    }

    public static void main(String[] args) {
        addGuard();
        takeKey();
        bringKey();
        handKey();
        go();
        stop();
        stopWalking();
        Check.end();
    }

    /** Rooms 1 and 2 behind the guard room, one behind the other, and some guards. */
    private static MuseumNights museum(int guards) {
        MuseumNights x = new MuseumNights();
        x.addRoom(0, 0);
        x.addRoom(1, 0);
        x.addDoor(0, 1, 1, -1);
        x.addDoor(1, 2, 3, -1);
        for (int guard = 0; guard < guards; guard++) {
            x.addGuard();
        }
        return x;
    }

    private static void addGuard() {
        MuseumNights x = museum(0);
        for (int guard = 0; guard < 4; guard++) {
            Check.due("8: guard " + guard, x.addGuard(), guard);
        }
        Check.due("8: full", x.addGuard(), Check.FULL);
        Check.due("8: guards", x.count(4), 4);
        Check.due("8: in the guard room", x.guard(3, 0), 0);
        Check.due("8: all of them", x.room(0, 6), 4);
        x.undo();
        Check.due("8: undone", x.guard(3, 0), Check.UNKNOWN);
        x.pass(7);
        Check.due("8: added later", x.addGuard(), 3);
        x.go(3, 1, 0);
        x.pass(5);
        Check.due("34: from the minute in which it was added", x.stay(0, 2), 7);
        Check.due("34: up to the one in which it set off", x.stay(0, 3), 7);
    }

    private static void takeKey() {
        MuseumNights x = museum(2);
        Check.due("9: first", x.takeKey(0, 0), 1);
        Check.due("9: second", x.takeKey(0, 7), 2);
        Check.due("9: holder", x.holder(7), 0);
        Check.due("9: guard 2", x.takeKey(2, 1), Check.UNKNOWN);
        Check.due("9: guard -1", x.takeKey(-1, 1), Check.UNKNOWN);
        Check.due("9: key 8", x.takeKey(0, 8), Check.UNKNOWN);
        Check.due("9: key -1", x.takeKey(0, -1), Check.UNKNOWN);
        Check.due("9: has it already", x.takeKey(0, 7), Check.NOT_POSSIBLE);
        Check.due("9: another has it", x.takeKey(1, 7), Check.NOT_POSSIBLE);
        Check.due("9: third", x.takeKey(0, 3), 3);
        Check.due("9: fourth", x.takeKey(0, 4), Check.FULL);
        Check.due("9: fourth, not in the cupboard", x.takeKey(0, 3), Check.NOT_POSSIBLE);
        Check.due("9: of the other guard", x.takeKey(1, 4), 1);
        Check.due("9: out", x.count(11), 4);
        x.go(1, 1, 0);
        x.pass(1);
        Check.due("9: in another room", x.takeKey(1, 5), Check.NOT_POSSIBLE);
        x.go(1, 2, 0);
        x.pass(1);
        Check.due("9: while walking", x.takeKey(1, 5), Check.NOT_POSSIBLE);
    }

    private static void bringKey() {
        MuseumNights x = museum(2);
        x.takeKey(0, 2);
        x.takeKey(0, 3);
        x.takeKey(1, 4);
        Check.due("10: guard 2", x.bringKey(2, 2), Check.UNKNOWN);
        Check.due("10: guard -1", x.bringKey(-1, 2), Check.UNKNOWN);
        Check.due("10: key 8", x.bringKey(0, 8), Check.UNKNOWN);
        Check.due("10: key -1", x.bringKey(0, -1), Check.UNKNOWN);
        Check.due("10: another has it", x.bringKey(0, 4), Check.NOT_POSSIBLE);
        Check.due("10: in the cupboard", x.bringKey(0, 5), Check.NOT_POSSIBLE);
        Check.due("10: one left", x.bringKey(0, 2), 1);
        Check.due("10: in the cupboard then", x.holder(2), Check.NONE);
        Check.due("10: none left", x.bringKey(0, 3), 0);
        x.go(1, 1, 0);
        x.pass(1);
        Check.due("10: in another room", x.bringKey(1, 4), Check.NOT_POSSIBLE);
        x.go(1, 0, 0);
        x.pass(1);
        Check.due("10: back again", x.bringKey(1, 4), 0);
        Check.due("10: out", x.count(11), 0);
    }

    private static void handKey() {
        MuseumNights x = museum(3);
        x.takeKey(0, 0);
        x.takeKey(0, 1);
        x.takeKey(1, 2);
        Check.due("11: guard 3", x.handKey(3, 1, 0), Check.UNKNOWN);
        Check.due("11: other 3", x.handKey(0, 3, 0), Check.UNKNOWN);
        Check.due("11: other -1", x.handKey(0, -1, 0), Check.UNKNOWN);
        Check.due("11: key 8", x.handKey(0, 0, 8), Check.UNKNOWN);
        Check.due("11: the same", x.handKey(0, 0, 0), Check.BAD_VALUE);
        Check.due("11: the same, has it not", x.handKey(0, 0, 7), Check.BAD_VALUE);
        Check.due("11: has it not", x.handKey(0, 1, 2), Check.NOT_POSSIBLE);
        Check.due("11: handed on", x.handKey(0, 1, 0), 2);
        Check.due("11: holder", x.holder(0), 1);
        x.takeKey(1, 3);
        Check.due("11: the other one has 3", x.handKey(0, 1, 1), Check.FULL);
        Check.due("11: the other one has 3, has it not", x.handKey(0, 1, 7), Check.NOT_POSSIBLE);
        x.go(0, 1, 0);
        x.pass(1);
        Check.due("11: in two rooms", x.handKey(1, 0, 3), Check.NOT_POSSIBLE);
        x.go(1, 1, 0);
        x.pass(1);
        Check.due("11: both in room 1", x.handKey(1, 0, 3), 2);
        x.go(0, 2, 0);
        x.go(1, 2, 0);
        x.pass(1);
        Check.due("11: both walk to the same room", x.handKey(1, 0, 2), Check.NOT_POSSIBLE);
        Check.due("11: out", x.count(11), 4);
    }

    private static void go() {
        MuseumNights x = museum(2);
        Check.due("12: first", x.go(0, 1, 0), 1);
        Check.due("12: second", x.go(0, 0, 99), 2);
        Check.due("12: guard 2", x.go(2, 1, 0), Check.UNKNOWN);
        Check.due("12: guard -1", x.go(-1, 1, 100), Check.UNKNOWN);
        Check.due("12: room 3", x.go(0, 3, 100), Check.UNKNOWN);
        Check.due("12: room -1", x.go(0, -1, 0), Check.UNKNOWN);
        Check.due("12: stay -1", x.go(0, 1, -1), Check.BAD_VALUE);
        Check.due("12: stay 100", x.go(0, 1, 100), Check.BAD_VALUE);
        for (int orders = 3; orders <= 12; orders++) {
            Check.due("12: order " + orders, x.go(0, orders % 3, orders), orders);
        }
        Check.due("12: full", x.go(0, 1, 0), Check.FULL);
        Check.due("12: full, bad", x.go(0, 1, 100), Check.BAD_VALUE);
        Check.due("12: of the other guard", x.go(1, 1, 5), 1);
        Check.due("12: the first one", x.orderAt(0, 0), 100);
        Check.due("12: the second one", x.orderAt(0, 1), 99);
        Check.due("12: the last one", x.orderAt(0, 11), 12);
        Check.due("12: behind it", x.orderAt(0, 12), Check.NONE);
        x.pass(1);
        Check.due("12: one is removed", x.guard(0, 4), 11);
        Check.due("12: the others move up", x.orderAt(0, 0), 99);
        Check.due("12: room for one more", x.go(0, 2, 1), 12);
        Check.due("12: it is the last one", x.orderAt(0, 11), 201);
    }

    private static void stop() {
        MuseumNights x = museum(2);
        Check.due("13: nothing to stop", x.stop(0), Check.NONE);
        Check.due("13: guard 2", x.stop(2), Check.UNKNOWN);
        Check.due("13: guard -1", x.stop(-1), Check.UNKNOWN);
        x.go(0, 1, 5);
        x.go(0, 0, 5);
        x.go(0, 1, 5);
        x.go(1, 1, 5);
        Check.due("13: three orders", x.stop(0), 3);
        Check.due("13: no orders then", x.guard(0, 4), 0);
        Check.due("13: the other one keeps them", x.guard(1, 4), 1);
        Check.due("13: again", x.stop(0), Check.NONE);
        x.pass(1);
        Check.due("13: stay left", x.guard(1, 3), 5);
        Check.due("13: a stay without orders", x.stop(1), 0);
        Check.due("13: no stay left", x.guard(1, 3), 0);
        x.go(1, 0, 0);
        x.pass(1);
        Check.due("13: sets off at once", x.guard(1, 0), 0);
        Check.due("13: one stay each", x.count(12), 2);
    }

    private static void stopWalking() {
        MuseumNights x = museum(1);
        x.go(0, 1, 0);
        x.go(0, 2, 4);
        x.go(0, 1, 1);
        x.pass(2);
        Check.due("13: walks", x.guard(0, 2), 2);
        Check.due("13: one order behind the walk", x.stop(0), 1);
        Check.due("13: walks without orders", x.stop(0), Check.NONE);
        Check.due("13: the walk goes on", x.guard(0, 1), 2);
        x.pass(2);
        Check.due("13: arrived", x.guard(0, 0), 2);
        Check.due("13: the stay of its order counts", x.guard(0, 3), 4);
    }
}
