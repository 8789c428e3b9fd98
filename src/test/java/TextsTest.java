/** Promises 20 to 22: the text, and the orders that are read from it. */
public final class TextsTest {
    private TextsTest() {
    }

    public static void main(String[] args) {
        type();
        clearText();
        faults();
        readOrders();
        orderOfChecks();
        Check.end();
    }

    private static MuseumNights museum() {
        MuseumNights x = new MuseumNights();
        for (int room = 1; room <= 11; room++) {
            x.addRoom(room % 6, 0);
        }
        x.addGuard();
        x.addGuard();
        return x;
    }

    private static void type() {
        MuseumNights x = museum();
        int states = x.count(14);
        for (int length = 1; length <= 60; length++) {
            Check.due("20: length", x.type((char) (length * 1000)), length);
        }
        Check.due("20: full", x.type('1'), Check.FULL);
        Check.due("20: length", x.count(15), 60);
        Check.due("20: no act", x.count(14), states);
        x.undo();
        Check.due("20: undo leaves it", x.count(15), 60);
    }

    private static void clearText() {
        MuseumNights x = museum();
        Check.due("21: empty", x.clearText(), 0);
        Check.typeAll(x, "1,2");
        Check.due("21: three", x.clearText(), 3);
        Check.due("21: empty then", x.clearText(), 0);
        Check.due("21: no act", x.count(14), 4);
        Check.due("21: length", x.count(15), 0);
        Check.due("21: from the start again", x.type('7'), 1);
    }

    private static void fault(String text, int fault) {
        MuseumNights x = museum();
        Check.typeAll(x, text);
        Check.due("22: fault of \"" + text + "\"", x.readOrders(0), -100 - fault);
        Check.due("22: no orders by \"" + text + "\"", x.guard(0, 4), 0);
        Check.due("22: no state by \"" + text + "\"", x.count(14), 4);
    }

    private static void faults() {
        fault("", 0);
        fault("+", 0);
        fault(",", 0);
        fault("x", 0);
        fault(" 1", 0);
        fault("-1", 0);
        fault("00", 1);
        fault("01", 1);
        fault("1 ", 1);
        fault("123", 2);
        fault("1+", 2);
        fault("1,", 2);
        fault("10+", 3);
        fault("1,,2", 2);
        fault("1+,2", 2);
        fault("1++2", 2);
        fault("1+2+3", 3);
        fault("1+00", 3);
        fault("1+123", 4);
        fault("1+12,", 5);
        fault("1+12,2+", 7);
        fault("1,2,03", 5);
        fault("1;2", 1);
        fault("1\u0000", 1);
        fault("\u0661", 0);
        fault("1\u0662", 1);
        fault("1,2\u012c3", 3);
        fault("1,1,1,1,1,1,1,1,1,1,1,1,1,1,1,1,1,1,1,1,1,1,1,1,1,1,1,1,1,1,", 60);
        fault("1,1,1,1,1,1,1,1,1,1,1,1,1,1,1,1,1,1,1,1,1,1,1,1,1,1,1,1,1,1x", 59);
        fault("99+99,99+99,x", 12);
    }

    private static void readOrders() {
        MuseumNights x = museum();
        Check.typeAll(x, "1");
        Check.due("22: one", x.readOrders(0), 1);
        Check.due("22: one more, the text stays", x.readOrders(0), 2);
        Check.due("22: text", x.count(15), 1);
        Check.typeAll(x, "0+0,11+99,3+7,10");
        Check.due("22: four", x.readOrders(0), 6);
        int[] orders = {100, 100, 0, 1199, 307, 1000, Check.NONE};
        for (int place = 0; place < orders.length; place++) {
            Check.due("22: order " + place, x.orderAt(0, place), orders[place]);
        }
        Check.due("22: none for the other one", x.guard(1, 4), 0);
        Check.due("22: one act", x.undo(), 3);
        Check.due("22: undone", x.guard(0, 4), 2);
        Check.typeAll(x, "1,2,3,4,5,6,7,8,9,10,11,0");
        Check.due("22: just twelve", x.readOrders(1), 12);
        Check.due("22: the last one", x.orderAt(1, 11), 0);
        Check.due("22: more than twelve", x.readOrders(0), Check.FULL);
        Check.due("22: none of them", x.guard(0, 4), 2);
        Check.typeAll(x, "1,2,3,4,5,6,7,8,9,10");
        Check.due("22: twelve with the others", x.readOrders(0), 12);
    }

    private static void orderOfChecks() {
        MuseumNights x = museum();
        Check.due("22: guard 2, fault", x.readOrders(2), Check.UNKNOWN);
        Check.due("22: guard -1, fault", x.readOrders(-1), Check.UNKNOWN);
        Check.typeAll(x, "1,12,x");
        Check.due("22: fault behind a room that is not there", x.readOrders(0), -105);
        Check.typeAll(x, "1,12,2");
        Check.due("22: room 12", x.readOrders(0), Check.UNKNOWN);
        Check.typeAll(x, "99+99");
        Check.due("22: room 99", x.readOrders(0), Check.UNKNOWN);
        Check.typeAll(x, "1,99,99");
        Check.due("22: room 99 behind the first", x.readOrders(0), Check.UNKNOWN);
        Check.typeAll(x, "1");
        Check.due("22: which is forgotten by the next reading", x.readOrders(0), 1);
        x.undo();
        Check.typeAll(x, "1,1,1,1,1,1,1,1,1,1,1,1,1,12");
        Check.due("22: too many, and room 12", x.readOrders(0), Check.UNKNOWN);
        Check.typeAll(x, "1,1,1,1,1,1,1,1,1,1,1,1,1,11");
        Check.due("22: too many", x.readOrders(0), Check.FULL);
        Check.typeAll(x, "1,1,1,1,1,1,1,1,1,1,1,1,1,1,1,1,1,1,1,1,1,1,1,1,1,1,1,1,1,12");
        Check.due("22: full text, room 12", x.readOrders(0), Check.UNKNOWN);
        Check.typeAll(x, "1,1,1,1,1,1,1,1,1,1,1,1,1,1,1,1,1,1,1,1,1,1,1,1,1,1,1,1,1,11");
        Check.due("22: full text", x.readOrders(0), Check.FULL);
    }
}
