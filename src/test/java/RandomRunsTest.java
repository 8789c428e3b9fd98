/**
 * Runs of calls drawn by a fixed rule, each made of the program and of PlainMuseum: every answer, and
 * after every call all that is told, must be the same. Wrong arguments are drawn, too.
 */
public final class RandomRunsTest {
    private static final int RUNS = 240;
    private static final int CALLS = 512;
    private static final int[] ODD = {
        -1, -2, -5, -6, 12, 13, 20, 40, 61, 100, 241, 721, Integer.MAX_VALUE, Integer.MIN_VALUE
    };

    private final int run;
    private final MuseumNights x = new MuseumNights();
    private final PlainMuseum y = new PlainMuseum();
    private long seed;

    private RandomRunsTest(int run) {
        this.run = run;
        this.seed = 7919L * run + 17;
    }

    public static void main(String[] args) {
        for (int run = 0; run < RUNS; run++) {
            new RandomRunsTest(run).go();
        }
        Check.end();
    }

    private void go() {
        build();
        for (int call = 0; call < CALLS; call++) {
            String name = "run " + run + ", call " + call + ": ";
            oneCall(name);
            if (call % 8 == 0 || run < 16) {
                compareAll(name);
            }
        }
    }

    /** A number from 0 up to one below the bound, drawn by a fixed rule. */
    private int below(int bound) {
        seed = seed * 6364136223846793005L + 1442695040888963407L;
        return (int) ((seed >>> 33) % bound);
    }

    /** Mostly a number below the bound, sometimes an odd one. */
    private int mostly(int bound) {
        return below(16) == 0 ? ODD[below(ODD.length)] : below(bound);
    }

    private void same(String name, int got, int want) {
        Check.due(name, got, want);
    }

    private void build() {
        int rooms = 2 + below(10);
        for (int i = 0; i < rooms; i++) {
            int zone = below(6);
            int bound = below(3) == 0 ? 0 : below(30);
            same("build", x.addRoom(zone, bound), y.addRoom(zone, bound));
        }
        int doors = rooms + below(8);
        for (int i = 0; i < doors; i++) {
            int room = i < rooms ? i + 1 : below(rooms + 1);
            int other = i < rooms ? below(i + 1) : below(rooms + 1);
            int minutes = below(3) == 0 ? 1 + below(9) : 1;
            int key = below(3) == 0 ? below(8) : -1;
            same("build", x.addDoor(room, other, minutes, key), y.addDoor(room, other, minutes, key));
        }
        int guards = 1 + below(4);
        for (int i = 0; i < guards; i++) {
            same("build", x.addGuard(), y.addGuard());
        }
        for (int i = 0; i < 6; i++) {
            if (below(3) > 0) {
                same("build", x.openZone(i), y.openZone(i));
            }
        }
    }

    private void oneCall(String name) {
        int kind = below(100);
        if (kind < 8) {
            houseCall(name, below(7));
        } else if (kind < 26) {
            keyCall(name, below(3));
        } else if (kind < 44) {
            orderCall(name);
        } else if (kind < 60) {
            workCall(name, below(6));
        } else if (kind < 82) {
            timeCall(name);
        } else if (kind < 92) {
            historyCall(name, below(8));
        } else {
            oddQuestion(name);
        }
    }

    private void houseCall(String name, int which) {
        int a = mostly(6);
        int b = mostly(12);
        int c = mostly(10);
        int d = mostly(9) - 1;
        boolean is = below(2) == 0;
        switch (which) {
            case 0: same(name + "addRoom", x.addRoom(a, b), y.addRoom(a, b)); break;
            case 1: same(name + "addDoor", x.addDoor(b, a, c, d), y.addDoor(b, a, c, d)); break;
            case 2: same(name + "setBound", x.setBound(b, c), y.setBound(b, c)); break;
            case 3: same(name + "exclude", x.exclude(a, d, is), y.exclude(a, d, is)); break;
            case 4: same(name + "openZone", x.openZone(a), y.openZone(a)); break;
            case 5: same(name + "closeZone", x.closeZone(a), y.closeZone(a)); break;
            default: same(name + "addGuard", x.addGuard(), y.addGuard()); break;
        }
    }

    private void keyCall(String name, int which) {
        int guard = mostly(4);
        int other = mostly(4);
        int key = mostly(8);
        switch (which) {
            case 0: same(name + "takeKey", x.takeKey(guard, key), y.takeKey(guard, key)); break;
            case 1: same(name + "bringKey", x.bringKey(guard, key), y.bringKey(guard, key)); break;
            default:
                if (below(2) == 0) {
                    key = Math.max(0, Integer.numberOfTrailingZeros(Math.max(0, x.guard(guard, 5))));
                }
                same(name + "handKey", x.handKey(guard, other, key), y.handKey(guard, other, key));
                break;
        }
    }

    /** Orders that lead along a way of doors, mostly. */
    private String orders(int guard) {
        int here = Math.max(x.guard(guard, 0), x.guard(guard, 1));
        int ahead = x.guard(guard, 4);
        if (ahead > 0) {
            here = x.orderAt(guard, ahead - 1) / 100;
        }
        StringBuilder text = new StringBuilder();
        int length = 1 + below(8);
        for (int i = 0; i < length; i++) {
            int next = below(12);
            for (int tries = 0; tries < 40; tries++) {
                int door = below(20);
                if (x.door(door, 0) == here && below(2) == 0) {
                    next = x.door(door, 1);
                    break;
                }
                if (x.door(door, 1) == here && below(2) == 0) {
                    next = x.door(door, 0);
                    break;
                }
            }
            here = next;
            text.append(i == 0 ? "" : ",").append(next);
            if (below(2) == 0) {
                text.append('+').append(below(4) == 0 ? below(100) : below(6));
            }
        }
        if (below(6) == 0) {
            text.setCharAt(below(text.length()), "0123456789+, ;x\u0000\u0663".charAt(below(17)));
        }
        return text.toString();
    }

    private void orderCall(String name) {
        int guard = mostly(4);
        int which = below(8);
        if (which == 0) {
            same(name + "stop", x.stop(guard), y.stop(guard));
        } else if (which < 3) {
            int room = mostly(12);
            int stay = mostly(100);
            same(name + "go", x.go(guard, room, stay), y.go(guard, room, stay));
        } else {
            if (below(4) > 0) {
                same(name + "clearText", x.clearText(), y.clearText());
            }
            String text = orders(guard);
            for (int i = 0; i < text.length(); i++) {
                same(name + "type", x.type(text.charAt(i)), y.type(text.charAt(i)));
            }
            same(name + "readOrders", x.readOrders(guard), y.readOrders(guard));
        }
    }

    private void workCall(String name, int which) {
        int a = mostly(10);
        int b = mostly(12);
        int c = below(2) == 0 ? mostly(100) : mostly(6);
        switch (which) {
            case 0: same(name + "addWork", x.addWork(c % 4, b, c), y.addWork(c % 4, b, c)); break;
            case 1:
            case 2: same(name + "moveWork", x.moveWork(a, b), y.moveWork(a, b)); break;
            case 3:
                if (below(4) == 0) {
                    same(name + "takeAway", x.takeAway(a), y.takeAway(a));
                }
                break;
            default:
                int alarm = mostly(Math.max(1, x.count(7)));
                int guard = mostly(4);
                same(name + "clearAlarm", x.clearAlarm(alarm, guard), y.clearAlarm(alarm, guard));
                break;
        }
    }

    private void timeCall(String name) {
        int which = below(40);
        if (which == 0 || x.count(0) == 720 && which < 20) {
            for (int key = 0; key < 8 && below(2) == 0; key++) {
                int holder = x.holder(key);
                same(name + "bringKey", x.bringKey(holder, key), y.bringKey(holder, key));
            }
            same(name + "nextNight", x.nextNight(), y.nextNight());
        } else {
            int minutes = below(5) == 0 ? mostly(62) : 1 + mostly(8);
            same(name + "alarmsIn", x.alarmsIn(minutes), y.alarmsIn(minutes));
            same(name + "pass", x.pass(minutes), y.pass(minutes));
        }
    }

    private void historyCall(String name, int which) {
        if (which < 5) {
            same(name + "undo", x.undo(), y.undo());
        } else if (which < 7) {
            same(name + "keep", x.keep(), y.keep());
        } else {
            same(name + "restore", x.restore(), y.restore());
        }
    }

    private void oddQuestion(String name) {
        int a = mostly(12);
        int b = mostly(20);
        int c = mostly(720);
        same(name + "room", x.room(a, b), y.room(a, b));
        same(name + "door", x.door(b, a), y.door(b, a));
        same(name + "zone", x.zone(a, b), y.zone(a, b));
        same(name + "guard", x.guard(a, b), y.guard(a, b));
        same(name + "orderAt", x.orderAt(a, b), y.orderAt(a, b));
        same(name + "holder", x.holder(a), y.holder(a));
        same(name + "work", x.work(a, b), y.work(a, b));
        same(name + "alarm", x.alarm(b, a), y.alarm(b, a));
        same(name + "stay", x.stay(b, a), y.stay(b, a));
        same(name + "gap", x.gap(a, b, c), y.gap(a, b, c));
        same(name + "gap", x.gap(a, c, b), y.gap(a, c, b));
        same(name + "way", x.way(a, b), y.way(a, b));
        same(name + "alarmsIn", x.alarmsIn(b), y.alarmsIn(b));
        same(name + "count", x.count(b), y.count(b));
    }

    private void compareAll(String name) {
        for (int what = -1; what <= 16; what++) {
            same(name + "count " + what, x.count(what), y.count(what));
        }
        for (int what = -1; what <= 9; what++) {
            for (int i = -1; i <= 20; i++) {
                if (i <= 12) {
                    same(name + "room " + i + " " + what, x.room(i, what), y.room(i, what));
                    same(name + "orderAt " + i + " " + what, x.orderAt(what, i), y.orderAt(what, i));
                }
                if (i <= 10) {
                    same(name + "work " + i + " " + what, x.work(i, what), y.work(i, what));
                }
                if (i <= 6) {
                    same(name + "zone " + i + " " + what, x.zone(i, what), y.zone(i, what));
                    same(name + "guard " + i + " " + what, x.guard(i, what), y.guard(i, what));
                }
                same(name + "door " + i + " " + what, x.door(i, what), y.door(i, what));
            }
        }
        for (int what = -1; what <= 5; what++) {
            for (int i = -1; i <= 40; i++) {
                same(name + "alarm " + i + " " + what, x.alarm(i, what), y.alarm(i, what));
            }
            for (int back = -1; back <= 5; back++) {
                same(name + "stay " + back + " " + what, x.stay(back, what), y.stay(back, what));
            }
            int far = below(1 + x.count(12));
            same(name + "stay " + far + " " + what, x.stay(far, what), y.stay(far, what));
        }
        for (int key = -1; key <= 8; key++) {
            same(name + "holder " + key, x.holder(key), y.holder(key));
        }
        for (int room = -1; room <= 12; room++) {
            for (int guard = -1; guard <= 4; guard++) {
                same(name + "way " + guard + " " + room, x.way(guard, room), y.way(guard, room));
            }
            int minute = x.count(0);
            int from = below(minute + 1);
            int until = from + below(minute + 2 - from);
            same(name + "gap " + room, x.gap(room, from, until), y.gap(room, from, until));
            same(name + "whole gap " + room, x.gap(room, 0, minute), y.gap(room, 0, minute));
        }
        same(name + "firstDue", x.firstDue(), y.firstDue());
        for (int minutes = -1; minutes <= 61; minutes += 10) {
            same(name + "alarmsIn " + minutes, x.alarmsIn(minutes), y.alarmsIn(minutes));
        }
    }
}
