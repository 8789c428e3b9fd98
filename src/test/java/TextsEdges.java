/** Promises 20 to 22: the text, and the orders that are read from it. */
final class TextsEdges extends Edges {
    private static final Acts NIGHT = Museums.NIGHT;
    /** All twelve rooms, and two guards. */
    private static final Acts TWELVE = Museums.rooms(11).then(Museums.guards(2));
    private static final String THIRTY_ORDERS = "1,2,3,4,5,6,7,8,9,0,1,2,3,4,5,6,7,8,9,0,1,2,3,4,5,6,7,8,9,10";

    @Override
    void run() {
        type();
        clearText();
        readOrders();
        readOrdersReturns();
        faults();
        readOrdersErrors();
    }

    private static Acts signs(int signs) {
        return x -> {
            for (int sign = 0; sign < signs; sign++) {
                x.type('1');
            }
        };
    }

    private static Acts orders(int guard, int orders) {
        return x -> {
            for (int order = 0; order < orders; order++) {
                x.go(guard, 1, 0);
            }
        };
    }

    private void type() {
        promise(20);
        says("Types a character behind the text.");
        answer("the first", Museums.NEW, x -> x.type('1'), 1);
        answer("behind the others", TWELVE.then(Museums.typed("1")).then(x -> x.type('0')).then(x -> x.readOrders(0)),
            x -> x.orderAt(0, 0), 1000);
        answer("is no act", TWELVE.then(x -> x.type('1')), x -> x.count(14), 4);
        answer("is no act in a new museum", Museums.NEW.then(x -> x.type('1')), x -> x.count(14), 0);
        sameState("leaves the state", NIGHT.then(x -> x.type('1')), NIGHT);
        answer("undo leaves it", NIGHT.then(x -> x.type('1')).then(x -> x.undo()), x -> x.count(15), 4);
        answer("restore leaves it", NIGHT.then(x -> x.type('1')).then(x -> x.restore()), x -> x.count(15), 4);
        answer("nextNight leaves it", TWELVE.then(x -> x.type('1')).then(x -> x.nextNight()), x -> x.count(15), 1);
        says("`character`: any character");
        answer("the least", Museums.NEW, x -> x.type((char) 0), 1);
        answer("a line's end", Museums.NEW, x -> x.type('\n'), 1);
        answer("255", Museums.NEW, x -> x.type((char) 255), 1);
        answer("256", Museums.NEW, x -> x.type((char) 256), 1);
        answer("the greatest", Museums.NEW, x -> x.type(Character.MAX_VALUE), 1);
        says("Returns the length of the text then;");
        answer("1", NIGHT.then(x -> x.clearText()), x -> x.type('x'), 1);
        answer("59", signs(58), x -> x.type('x'), 59);
        answer("60", signs(59), x -> x.type('x'), 60);
        says("FULL if it has 60 characters.");
        refuse("a sixty-first", TWELVE.then(signs(60)), x -> x.type('1'), FULL);
        refuse("the greatest character", TWELVE.then(signs(60)), x -> x.type(Character.MAX_VALUE), FULL);
        answer("again when it is empty", signs(60).then(x -> x.clearText()), x -> x.type('1'), 1);
    }

    private void clearText() {
        promise(21);
        says("Empties the text.");
        answer("its length then", signs(60).then(x -> x.clearText()), x -> x.count(15), 0);
        answer("nothing is left of it", TWELVE.then(Museums.typed("11,11")).then(x -> x.clearText())
            .then(Museums.typed("2")).then(x -> x.readOrders(0)), x -> x.guard(0, 4) * 1000 + x.orderAt(0, 0), 1200);
        answer("is no act", NIGHT.then(x -> x.clearText()), x -> x.undo(), 3);
        answer("is no act in a new museum", Museums.NEW.then(x -> x.clearText()), x -> x.count(14), 0);
        sameState("leaves the state", NIGHT.then(x -> x.clearText()), NIGHT);
        says("Returns the length that it had.");
        tell("0", TWELVE, x -> x.clearText(), 0);
        answer("1", signs(1), x -> x.clearText(), 1);
        answer("60", signs(60), x -> x.clearText(), 60);
        answer("60 when one more was refused", signs(61), x -> x.clearText(), 60);
        tell("0 when it was emptied already", TWELVE.then(signs(9)).then(x -> x.clearText()), x -> x.clearText(), 0);
    }

    private void readOrders() {
        promise(22);
        says("Gives a guard the orders of the text, which stays, behind the others; all of them, or none. This is "
            + "one act.");
        Acts three = TWELVE.then(Museums.typed("1,11+99,0+0"));
        act("three orders", three, x -> x.readOrders(0), 3);
        act("during a night", NIGHT, x -> x.readOrders(2), 2);
        act("while walking", NIGHT, x -> x.readOrders(1), 2);
        act("while walking without orders", NIGHT, x -> x.readOrders(0), 1);
        tellRow("the orders", three.then(x -> x.readOrders(0)), (x, place) -> x.orderAt(0, place), 100, 1199, 0, NONE);
        tellRow("behind the others", three.then(x -> x.go(0, 2, 7)).then(x -> x.readOrders(0)),
            (x, place) -> x.orderAt(0, place), 207, 100, 1199, 0, NONE);
        tell("none for another guard", three.then(x -> x.readOrders(0)), x -> x.guard(1, 4), 0);
        answer("the text stays", three.then(x -> x.readOrders(0)), x -> x.clearText(), 11);
        act("a second time", three.then(x -> x.readOrders(0)), x -> x.readOrders(0), 6);
        refuse("none of them when one room is not there", NIGHT.then(Museums.typed(",3,4")),
            x -> x.readOrders(2), UNKNOWN);
        refuse("none of them when one is too many", three.then(orders(0, 10)), x -> x.readOrders(0), FULL);
        refuse("none of them when there is a fault", three.then(x -> x.type(',')), x -> x.readOrders(0), -112);
        says("`guard`: a guard");
        act("the first", three, x -> x.readOrders(0), 3);
        act("the last", three, x -> x.readOrders(1), 3);
        act("the last of four", three.then(Museums.guards(2)), x -> x.readOrders(3), 3);
    }

    private void readOrdersReturns() {
        says("Returns the number of orders that the guard has then;");
        act("1", TWELVE.then(Museums.typed("9")), x -> x.readOrders(1), 1);
        act("12", TWELVE.then(Museums.typed("1,2,3,4,5,6,7,8,9,10,11,0")), x -> x.readOrders(1), 12);
        act("12 with the others", TWELVE.then(Museums.typed("1,2,3")).then(orders(1, 9)), x -> x.readOrders(1), 12);
        act("those of another guard do not count", TWELVE.then(Museums.typed("1,2,3")).then(orders(0, 12)),
            x -> x.readOrders(1), 3);
        tell("the twelfth", TWELVE.then(Museums.typed("1,2,3,4,5,6,7,8,9,10,11,0+99")).then(x -> x.readOrders(1)),
            x -> x.orderAt(1, 11), 99);
        says("FULL if the guard would have more than 12.");
        refuse("13", TWELVE.then(Museums.typed("1,2,3,4,5,6,7,8,9,10,11,0,1")), x -> x.readOrders(1), FULL);
        refuse("13 with the others", TWELVE.then(Museums.typed("1,2,3")).then(orders(1, 10)),
            x -> x.readOrders(1), FULL);
        refuse("one behind twelve", TWELVE.then(Museums.typed("1")).then(orders(1, 12)), x -> x.readOrders(1), FULL);
        refuse("30", TWELVE.then(Museums.typed(THIRTY_ORDERS)), x -> x.readOrders(1), FULL);
    }

    private void fault(String text, int fault) {
        refuse("fault of '" + text + "'", TWELVE.then(Museums.typed(text)), x -> x.readOrders(1), -100 - fault);
    }

    private void faults() {
        says("-100 minus the fault of the text if it has one (which is an error);");
        fault("", 0);
        fault("x", 0);
        fault("1x", 1);
        fault("11+22x", 5);
        fault(THIRTY_ORDERS.substring(0, 59) + "x", 59);
        fault(THIRTY_ORDERS.substring(0, 58) + "1,", 60);
        fault(THIRTY_ORDERS.substring(0, 58) + "1+", 60);
        fault(THIRTY_ORDERS.substring(0, 56) + "1,2+", 60);
        fault("01" + THIRTY_ORDERS.substring(2), 1);
        fault("1,x,y", 2);
    }

    private void readOrdersErrors() {
        Acts bad = TWELVE.then(Museums.typed("1,x"));
        Acts missing = TWELVE.then(Museums.typed("1,12"));
        says("UNKNOWN if there is no such guard;");
        refuseOutside("guard", 0, 1, TWELVE.then(Museums.typed("1")), (x, guard) -> x.readOrders(guard), UNKNOWN);
        refuse("ahead of a fault", bad, x -> x.readOrders(2), UNKNOWN);
        refuse("ahead of the fault of an empty text", Museums.NEW, x -> x.readOrders(0), UNKNOWN);
        refuse("ahead of FULL", TWELVE.then(Museums.typed(THIRTY_ORDERS)), x -> x.readOrders(-1), UNKNOWN);
        says("UNKNOWN if there is no such room in any of them;");
        refuse("just behind the last one", missing, x -> x.readOrders(1), UNKNOWN);
        act("the last one", TWELVE.then(Museums.typed("1,11")), x -> x.readOrders(1), 2);
        refuse("the greatest", TWELVE.then(Museums.typed("99")), x -> x.readOrders(1), UNKNOWN);
        refuse("in the first of them", TWELVE.then(Museums.typed("12+3,1,2")), x -> x.readOrders(1), UNKNOWN);
        refuse("in the middle one", TWELVE.then(Museums.typed("1,12+3,2")), x -> x.readOrders(1), UNKNOWN);
        refuse("in the last of thirty", TWELVE.then(Museums.typed(THIRTY_ORDERS.substring(0, 58) + "12")),
            x -> x.readOrders(1), UNKNOWN);
        act("a stay is no room", TWELVE.then(Museums.typed("1+12")), x -> x.readOrders(1), 1);
        act("a room that came later", NIGHT.then(x -> x.clearText()).then(Museums.typed("4"))
            .then(x -> x.addRoom(0, 0)),
            x -> x.readOrders(2), 2);
        refuse("a room that was undone", NIGHT.then(x -> x.clearText()).then(Museums.typed("4"))
            .then(x -> x.addRoom(0, 0)).then(x -> x.undo()), x -> x.readOrders(2), UNKNOWN);
        refuse("behind a fault that comes later", TWELVE.then(Museums.typed("12,x")), x -> x.readOrders(1), -103);
        refuse("behind the end of the text that comes too early", TWELVE.then(Museums.typed("12,1+")),
            x -> x.readOrders(1), -105);
        refuse("ahead of FULL", missing.then(orders(1, 12)), x -> x.readOrders(1), UNKNOWN);
        says("-100 minus the fault of the text if it has one (which is an error);");
        refuse("ahead of FULL", bad.then(orders(1, 12)), x -> x.readOrders(1), -102);
        refuse("ahead of FULL by an empty text", TWELVE.then(orders(1, 12)), x -> x.readOrders(1), -100);
        refuse("ahead of FULL by too many orders", TWELVE.then(Museums.typed("1,1,1,1,1,1,1,1,1,1,1,1,1,")),
            x -> x.readOrders(1), -126);
        answer("the text stays, so that it can be mended", bad.then(x -> x.readOrders(1)).then(x -> x.clearText())
            .then(Museums.typed("1,2")), x -> x.readOrders(1), 2);
    }
}
