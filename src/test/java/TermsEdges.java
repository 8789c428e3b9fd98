/** The section Terms: rooms, doors and zones, guards and keys, works, gaps, texts, history, errors. */
final class TermsEdges extends Edges {
    private static final Acts NEW = Museums.NEW;
    private static final Acts NIGHT = Museums.NIGHT;
    private static final Acts ROW = Museums.row(1);

    @Override
    void run() {
        promise(TERMS);
        useOfAnObject();
        rooms();
        doors();
        zones();
        guards();
        orders();
        works();
        workKinds();
        gaps();
        texts();
        textNumbers();
        faults();
        history();
        acts();
        snapshot();
        errors();
    }

    private void useOfAnObject() {
        says("An object is used for at most 512 calls after it has been made;");
        answer("the 512th is still answered", NEW.then(x -> {
            for (int call = 1; call <= 511; call++) {
                x.addRoom(call % 6, 0);
            }
        }), x -> x.count(2), 12);
        answer("511 acts ahead of it", NEW.then(x -> {
            for (int call = 1; call <= 511; call++) {
                x.nextNight();
            }
        }), x -> x.count(1), 511);
        answer("an undo, with 511 acts ahead of it", NEW.then(x -> {
            x.addRoom(0, 1);
            for (int call = 2; call <= 511; call++) {
                x.setBound(1, call % 2 == 0 ? 2 : 1);
            }
        }), x -> x.undo(), 3);
        answer("a night full of stays ahead of it", NEW.then(x -> {
            Museums.row(4).on(x);
            Museums.type(x, "1,0,1,0,1,0,1,0,1,0,1,0");
            for (int round = 0; round < 60; round++) {
                for (int guard = 0; guard < 4; guard++) {
                    x.readOrders(guard);
                }
                x.pass(12);
            }
        }), x -> x.count(12), 2880);
    }

    private void rooms() {
        says("There are at most 12 rooms, numbered from 0.");
        tell("0", NEW, x -> x.room(0, 1), 0);
        refuse("no 1 at first", NEW, x -> x.room(1, 1), UNKNOWN);
        act("11", Museums.rooms(10), x -> x.addRoom(5, 0), 11);
        refuse("no 12", Museums.rooms(11), x -> x.addRoom(5, 0), FULL);
        says("The room 0 is the guard room; it is there at first, is in no zone, and has the bound 0.");
        tell("there", NEW, x -> x.count(2), 1);
        refuse("in no zone", NEW, x -> x.room(0, 0), NONE);
        tellRow("rooms of zone", NEW, (x, zone) -> x.zone(zone, 2), 0, 0, 0, 0, 0, 0);
        tell("the bound", NEW, x -> x.room(0, 1), 0);
        answer("which no night runs out of", NEW, x -> Museums.passMany(x, 720), 0);
        answer("an arrival in it gives no alarm", ROW.then(x -> x.go(0, 1, 0)).then(x -> x.go(0, 0, 0)),
            x -> x.pass(3), 0);
        says("Each other room is in one of the zones 0 to 5, and has a bound (0 to 240 minutes; 0 means that it "
            + "has none).");
        tellRow("zone of room", Museums.rooms(6), (x, room) -> x.room(room, 0), NONE, 0, 1, 2, 3, 4, 5);
        answer("0: no alarm in a night", Museums.rooms(11), x -> Museums.passMany(x, 720), 0);
        refuse("0: nothing is due", Museums.rooms(11), x -> x.firstDue(), NONE);
        answer("0 that was set: no alarm", NEW.then(x -> x.addRoom(0, 5)).then(x -> x.setBound(1, 0)),
            x -> x.pass(60), 0);
        answer("1: none in its minute", NEW.then(x -> x.addRoom(0, 1)), x -> x.pass(1), 0);
        answer("1: in the next", NEW.then(x -> x.addRoom(0, 1)).then(x -> x.pass(1)), x -> x.pass(1), 1);
        answer("240: none in its minutes", NEW.then(x -> x.addRoom(0, 240)), x -> Museums.passMany(x, 240), 0);
        answer("240: in the next", NEW.then(x -> x.addRoom(0, 240)).then(Museums.pass(240)), x -> x.pass(1), 1);
    }

    private void doors() {
        says("There are at most 20 doors, numbered from 0, each between two rooms; there is at most one door "
            + "between the same two.");
        refuse("none at first", NEW, x -> x.door(0, 0), UNKNOWN);
        act("0", Museums.rooms(1), x -> x.addDoor(0, 1, 1, -1), 0);
        act("19", Museums.doors(19), x -> x.addDoor(7, 6, 1, -1), 19);
        refuse("no 20", Museums.doors(20), x -> x.addDoor(7, 6, 1, -1), FULL);
        refuse("not from a room to itself", Museums.rooms(1), x -> x.addDoor(1, 1, 1, -1), BAD_VALUE);
        refuse("a second one", ROW, x -> x.addDoor(0, 1, 9, 7), NOT_POSSIBLE);
        refuse("a second one, turned", ROW, x -> x.addDoor(1, 0, 9, 7), NOT_POSSIBLE);
        says("Walking through a door takes 1 to 9 minutes.");
        Acts near = ROW.then(x -> x.go(0, 1, 0));
        tell("1: stands there behind one", near.then(x -> x.pass(1)), x -> x.guard(0, 0), 1);
        Acts far = ROW.then(x -> x.addDoor(2, 0, 9, -1)).then(x -> x.go(0, 2, 0));
        refuse("9: walks behind eight", far.then(x -> x.pass(8)), x -> x.guard(0, 0), NONE);
        tell("9: stands there behind nine", far.then(x -> x.pass(9)), x -> x.guard(0, 0), 2);
        refuse("0", ROW, x -> x.addDoor(2, 0, 0, -1), BAD_VALUE);
        refuse("10", ROW, x -> x.addDoor(2, 0, 10, -1), BAD_VALUE);
        says("A door has one of the keys 0 to 7, or none.");
        tell("0", ROW.then(x -> x.addDoor(2, 0, 1, 0)), x -> x.door(2, 3), 0);
        tell("7", ROW.then(x -> x.addDoor(2, 0, 1, 7)), x -> x.door(2, 3), 7);
        refuse("none", ROW, x -> x.door(1, 3), NONE);
        refuse("no 8", ROW, x -> x.addDoor(2, 0, 1, 8), BAD_VALUE);
        refuse("no -2", ROW, x -> x.addDoor(2, 0, 1, -2), BAD_VALUE);
    }

    private void zones() {
        says("A zone is closed (at first) or open.");
        tellRow("closed at first, zone", NEW, (x, zone) -> x.zone(zone, 0), 0, 0, 0, 0, 0, 0);
        tell("open", NEW.then(x -> x.openZone(5)), x -> x.zone(5, 0), 1);
        tell("closed again", NEW.then(x -> x.openZone(5)).then(x -> x.closeZone(5)), x -> x.zone(5, 0), 0);
        says("Two zones can exclude one another; then they must not both be open.");
        Acts pair = NEW.then(x -> x.exclude(0, 5, true));
        tell("the first excludes", pair, x -> x.zone(0, 1), 32);
        tell("the other excludes", pair, x -> x.zone(5, 1), 1);
        refuse("the other is not opened", pair.then(x -> x.openZone(0)), x -> x.openZone(5), NOT_POSSIBLE);
        refuse("the first is not opened", pair.then(x -> x.openZone(5)), x -> x.openZone(0), NOT_POSSIBLE);
        refuse("not when both are open", NEW.then(x -> x.openZone(0)).then(x -> x.openZone(5)),
            x -> x.exclude(5, 0, true), NOT_POSSIBLE);
        act("both are open when they do not any more", pair.then(x -> x.openZone(0)).then(x -> x.exclude(5, 0, false)),
            x -> x.openZone(5), 2);
        act("nor do all that one excludes exclude one another", pair.then(x -> x.exclude(0, 4, true))
            .then(x -> x.openZone(4)),
            x -> x.openZone(5), 2);
    }

    private void guards() {
        says("There are at most 4 guards, numbered from 0.");
        refuse("none at first", NEW, x -> x.guard(0, 0), UNKNOWN);
        act("0", NEW, x -> x.addGuard(), 0);
        act("3", Museums.guards(3), x -> x.addGuard(), 3);
        refuse("no 4", Museums.guards(4), x -> x.addGuard(), FULL);
        says("A guard stands in a room (at first in the guard room), or walks to one.");
        tell("the guard room", Museums.guards(4), x -> x.guard(3, 0), 0);
        refuse("walks to none", Museums.guards(4), x -> x.guard(3, 1), NONE);
        refuse("stands in none while walking", NIGHT, x -> x.guard(0, 0), NONE);
        tell("walks to one", NIGHT, x -> x.guard(0, 1), 2);
        says("A guard has 0 to 3 keys; each key is with one guard, or in the cupboard of the guard room (at first).");
        tell("0 keys", Museums.guards(1), x -> x.guard(0, 5), 0);
        tell("3 keys", Museums.guards(1).then(x -> {
            x.takeKey(0, 7);
            x.takeKey(0, 0);
            x.takeKey(0, 4);
        }), x -> x.guard(0, 5), 145);
        refuse("no 4 keys", Museums.guards(1).then(x -> {
            x.takeKey(0, 7);
            x.takeKey(0, 0);
            x.takeKey(0, 4);
        }), x -> x.takeKey(0, 5), FULL);
        refuse("a key is with one guard", Museums.guards(2).then(x -> x.takeKey(0, 7)),
            x -> x.takeKey(1, 7), NOT_POSSIBLE);
        tellRow("in the cupboard, key", Museums.guards(4),
            (x, key) -> x.holder(key), NONE, NONE, NONE, NONE, NONE, NONE, NONE, NONE);
        act("a key is in the cupboard whichever guard is there", Museums.guards(4), x -> x.takeKey(3, 7), 1);
    }

    private void orders() {
        says("A guard has a row of at most 12 orders; an order is a room and a stay (0 to 99 minutes).");
        Acts eleven = ROW.then(x -> {
            for (int order = 0; order < 11; order++) {
                x.go(0, order % 3, 89 + order);
            }
        });
        refuse("none at first", ROW, x -> x.orderAt(0, 0), NONE);
        act("the twelfth", eleven, x -> x.go(0, 1, 0), 12);
        refuse("no thirteenth", eleven.then(x -> x.go(0, 1, 0)), x -> x.go(0, 1, 0), FULL);
        tellRow("in their row", eleven, (x, place) -> x.orderAt(0, place),
            89, 190, 291, 92, 193, 294, 95, 196, 297, 98, 199, NONE);
        tell("a stay of 0", ROW.then(x -> x.go(0, 2, 0)), x -> x.orderAt(0, 0), 200);
        tell("a stay of 99", ROW.then(x -> x.go(0, 2, 99)), x -> x.orderAt(0, 0), 299);
        refuse("no stay of -1", ROW, x -> x.go(0, 2, -1), BAD_VALUE);
        refuse("no stay of 100", ROW, x -> x.go(0, 2, 100), BAD_VALUE);
        says("A guard who stands has minutes left to stay (0 at first).");
        tell("0", ROW, x -> x.guard(0, 3), 0);
        tell("0 by an order alone", ROW.then(x -> x.go(0, 1, 9)), x -> x.guard(0, 3), 0);
        tell("9", ROW.then(x -> x.go(0, 1, 9)).then(x -> x.pass(1)), x -> x.guard(0, 3), 9);
    }

    private void works() {
        says("There are at most 10 works a night, numbered from 0.");
        Acts nine = ROW.then(x -> {
            for (int work = 0; work < 9; work++) {
                x.addWork(2, 1, work);
            }
        });
        refuse("none at first", ROW, x -> x.work(0, 0), UNKNOWN);
        act("0", ROW, x -> x.addWork(0, 1, 0), 0);
        act("9", nine, x -> x.addWork(0, 1, 0), 9);
        refuse("no 10", nine.then(x -> x.addWork(0, 1, 0)), x -> x.addWork(0, 1, 0), FULL);
        act("0 in the next night", nine.then(x -> x.addWork(0, 1, 0)).then(x -> x.nextNight()),
            x -> x.addWork(0, 1, 0), 0);
        says("A work has a room (not the guard room), a kind and a limit (0 to 99 minutes); it is fine (at first) "
            + "or troubled, until it is taken away.");
        refuse("not the guard room", ROW, x -> x.addWork(0, 0, 0), UNKNOWN);
        act("the limit 0", ROW, x -> x.addWork(2, 1, 0), 0);
        act("the limit 99", ROW, x -> x.addWork(2, 1, 99), 0);
        refuse("no limit -1", ROW, x -> x.addWork(2, 1, -1), BAD_VALUE);
        refuse("no limit 100", ROW, x -> x.addWork(2, 1, 100), BAD_VALUE);
        tell("fine at first, though its room was not watched for long", ROW.then(x -> x.pass(60))
            .then(x -> x.addWork(2, 1, 0)),
            x -> x.work(0, 3), 0);
        tell("troubled", ROW.then(x -> x.addWork(2, 1, 0)).then(x -> x.pass(1)), x -> x.work(0, 3), 1);
        tell("neither when it is taken away", ROW.then(x -> x.addWork(2, 1, 0)).then(x -> x.takeAway(0))
            .then(x -> x.pass(9)),
            x -> x.work(0, 3), 2);
    }

    /** A work of room 1, to which the guard goes in the minute 0, and so watches it from 1 on. */
    private static Acts watchedWork(int kind, int limit) {
        return ROW.then(x -> {
            x.addWork(kind, 1, limit);
            x.go(0, 1, 99);
        });
    }

    private static Acts aloneWork(int kind, int limit) {
        return ROW.then(x -> x.addWork(kind, 1, limit));
    }

    private void workKinds() {
        says("In each minute that passes (see below) it is looked at, and is troubled then if the following holds, "
            + "by its kind, otherwise fine: 0 the zone of its room is open, and its room is not watched in this "
            + "minute; 1 its room has been watched for more minutes in a row than its limit; 2 its room has not "
            + "been watched for more minutes in a row than its limit.");
        tell("0: open and not watched", aloneWork(0, 0).then(x -> x.pass(1)), x -> x.work(0, 3), 1);
        tell("0: open and watched", watchedWork(0, 0).then(x -> x.pass(2)), x -> x.work(0, 3), 0);
        tell("0: open, and the guard comes in this minute", watchedWork(0, 0).then(x -> x.pass(1)),
            x -> x.work(0, 3), 1);
        tell("0: closed and not watched", aloneWork(0, 0).then(x -> x.closeZone(0)).then(x -> x.pass(1)),
            x -> x.work(0, 3), 0);
        tell("0: closed and watched", watchedWork(0, 0).then(x -> x.closeZone(0)).then(x -> x.pass(2)),
            x -> x.work(0, 3), 0);
        tell("0: closed when it was troubled", aloneWork(0, 0).then(x -> x.pass(1)).then(x -> x.closeZone(0)),
            x -> x.work(0, 3), 1);
        tell("0: and a minute passed", aloneWork(0, 0).then(x -> x.pass(1)).then(x -> x.closeZone(0))
            .then(x -> x.pass(1)),
            x -> x.work(0, 3), 0);
        tell("0: another zone is open", ROW.then(x -> x.closeZone(1)).then(x -> x.addWork(0, 2, 0))
            .then(x -> x.pass(1)),
            x -> x.work(0, 3), 0);
        for (int limit : new int[] {0, 1, 58}) {
            tell("1: watched for " + limit, watchedWork(1, limit).then(x -> x.pass(1 + limit)), x -> x.work(0, 3), 0);
            tell("1: one more", watchedWork(1, limit).then(x -> x.pass(2 + limit)), x -> x.work(0, 3), 1);
            tell("2: not watched for " + limit, aloneWork(2, limit).then(x -> Museums.passMany(x, limit)),
                x -> x.work(0, 3), 0);
            tell("2: one more", aloneWork(2, limit).then(x -> x.pass(1 + limit)), x -> x.work(0, 3), 1);
        }
        tell("1: watched for 99", watchedWork(1, 99).then(Museums.pass(100)), x -> x.work(0, 3), 0);
        tell("1: watched for 100", watchedWork(1, 99).then(Museums.pass(101)), x -> x.work(0, 3), 1);
        tell("2: not watched for 99", aloneWork(2, 99).then(Museums.pass(99)), x -> x.work(0, 3), 0);
        tell("2: not watched for 100", aloneWork(2, 99).then(Museums.pass(100)), x -> x.work(0, 3), 1);
        Acts twice = ROW.then(x -> {
            x.addWork(1, 1, 3);
            x.addWork(2, 1, 2);
            x.go(0, 1, 2);
            x.go(0, 0, 0);
            x.go(0, 1, 9);
        });
        tell("1: watched twice for 2 is not in a row", twice.then(x -> x.pass(7)), x -> x.work(0, 3), 0);
        tell("2: not watched for 1 and then for 2 is not in a row", twice.then(x -> x.pass(5)), x -> x.work(1, 3), 0);
        tell("1: watched, not in this minute", watchedWork(1, 0).then(x -> x.pass(9)).then(x -> {
            x.stop(0);
            x.go(0, 2, 0);
            x.pass(1);
        }), x -> x.work(0, 3), 0);
        tell("2: watched in this minute", watchedWork(2, 0).then(x -> x.pass(2)), x -> x.work(0, 3), 0);
        tell("2: the zone is closed", aloneWork(2, 0).then(x -> x.closeZone(0)).then(x -> x.pass(1)),
            x -> x.work(0, 3), 1);
        says("(The limit plays no part for the kind 0. The minute that passes counts.)");
        tell("0 with the limit 99", aloneWork(0, 99).then(x -> x.pass(1)), x -> x.work(0, 3), 1);
        tell("1 with the limit 0 in the first minute", watchedWork(1, 0).then(x -> x.pass(2)), x -> x.work(0, 3), 1);
        tell("2 with the limit 0 in the first minute", aloneWork(2, 0).then(x -> x.pass(1)), x -> x.work(0, 3), 1);
    }

    private void gaps() {
        says("A gap of a room is a number of minutes in a row in which it was not watched.");
        tell("none", ROW.then(x -> x.pass(9)), x -> x.gap(0, 0, 9), 0);
        tell("two that are not in a row", Museums.WATCHED, x -> x.gap(1, 0, 8), 4);
        tell("all the night", ROW.then(Museums.pass(720)), x -> x.gap(2, 0, 720), 720);
        says("(A guard who comes to a room with a stay of 0 and an order behind it sets off in the very next "
            + "minute, and so does not watch it.)");
        Acts through = ROW.then(x -> {
            x.go(0, 1, 0);
            x.go(0, 2, 0);
            x.pass(9);
        });
        tell("it is not watched", through, x -> x.room(1, 5), 0);
        tell("its gap goes on", through, x -> x.gap(1, 0, 9), 9);
        tell("the next minute", through, x -> x.stay(0, 3), 1);
        Acts oneMinute = ROW.then(x -> {
            x.go(0, 1, 1);
            x.go(0, 2, 0);
            x.pass(9);
        });
        tell("a stay of 1 is watched", oneMinute, x -> x.room(1, 5), 1);
        tell("in just this minute", oneMinute, x -> x.gap(1, 1, 2), 0);
        Acts noOrder = ROW.then(x -> x.go(0, 1, 0)).then(x -> x.pass(2));
        tell("a stay of 0 without an order behind it is watched", noOrder, x -> x.room(1, 5), 1);
        Acts halted = ROW.then(x -> {
            x.go(0, 1, 0);
            x.go(0, 1, 0);
            x.pass(2);
        });
        tell("a stay of 0 with a halt behind it is watched", halted, x -> x.room(1, 5), 1);
    }

    private static Acts typed(String text) {
        return Museums.rooms(11).then(Museums.guards(1)).then(Museums.typed(text));
    }

    private void fault(String text, int fault) {
        refuse("fault of '" + text + "'", typed(text), x -> x.readOrders(0), -100 - fault);
    }

    private void orders(String text, int... orders) {
        int count = orders.length;
        act("'" + text + "'", typed(text), x -> x.readOrders(0), count);
        for (int place = 0; place < count; place++) {
            int p = place;
            tell("'" + text + "', order " + place, typed(text).then(x -> x.readOrders(0)),
                x -> x.orderAt(0, p), orders[p]);
        }
    }

    private void texts() {
        says("There is a text of at most 60 characters, empty at first.");
        tell("empty", NEW, x -> x.clearText(), 0);
        answer("the sixtieth", Museums.typed(" ".repeat(59)), x -> x.type(' '), 60);
        refuse("no sixty-first", Museums.typed(" ".repeat(60)), x -> x.type(' '), FULL);
        says("A text of orders is one or more orders with \",\" between two.");
        orders("1", 100);
        orders("1,2", 100, 200);
        orders("1,2,3,4,5,6,7,8,9,10,11,0", 100, 200, 300, 400, 500, 600, 700, 800, 900, 1000, 1100, 0);
        fault("", 0);
        fault(",", 0);
        fault("1,", 2);
        fault(",1", 0);
        fault("1,,2", 2);
        fault("1 2", 1);
        fault("1;2", 1);
        fault("1, 2", 2);
        says("An order is a room (one or two digits), and perhaps \"+\" and a stay (one or two digits); no number "
            + "has a zero in front (unless it is the single digit 0).");
        orders("0", 0);
        orders("9", 900);
        orders("10", 1000);
        orders("11", 1100);
        orders("0+0", 0);
        orders("1+0", 100);
        orders("1+9", 109);
        orders("1+10", 110);
        orders("11+99", 1199);
        orders("0+99,10+1,2", 99, 1001, 200);
        fault("+1", 0);
        fault("1+", 2);
        fault("1+,2", 2);
        fault("1++2", 2);
        fault("1+2+3", 3);
        fault("-1", 0);
        fault("1-1", 1);
        fault("1+-1", 2);
    }

    private void textNumbers() {
        fault("00", 1);
        fault("01", 1);
        fault("09+1", 1);
        fault("1+00", 3);
        fault("1+05", 3);
        fault("1,00", 3);
        fault("1,2+01", 5);
        fault("100", 2);
        fault("111", 2);
        fault("10+100", 5);
        fault("1+123", 4);
        refuse("two digits of a room that is not there", typed("12"), x -> x.readOrders(0), UNKNOWN);
        refuse("99", typed("99"), x -> x.readOrders(0), UNKNOWN);
    }

    private void faults() {
        says("The fault of the text is the index, from 0, of the first character that is not allowed at its place, "
            + "or the length of the text if it ends too early (the empty text does).");
        fault("", 0);
        fault("1+", 2);
        fault("11,", 3);
        fault("1+12,2+", 7);
        fault("x", 0);
        fault("1x2y", 1);
        fault("1,x+", 2);
        fault("1+x", 2);
        fault("12+34,56x", 8);
        // the characters next to the digits, "+" and ",", and those of which the same bits are left over
        fault("/", 0);
        fault(":", 0);
        fault("1/", 1);
        fault("1:", 1);
        fault("1*2", 1);
        fault("1-2", 1);
        fault("1.2", 1);
        fault(String.valueOf((char) ('1' + 256)), 0);
        fault("1" + (char) ('1' + 256), 1);
        fault("1" + (char) (',' + 256) + "2", 1);
        fault("1" + (char) ('+' + 65280) + "2", 1);
        fault("1+" + (char) ('2' + 128), 2);
        fault("\u0661", 0);
        fault("\uff11", 0);
        fault("\u0000", 0);
        fault("1\u0000", 1);
        fault("1\n", 1);
        fault("1,".repeat(30), 60);
        fault("1,".repeat(29) + "1+", 60);
        fault("1,".repeat(29) + "1x", 59);
        fault("x".repeat(60), 0);
        fault("1".repeat(60), 2);
    }

    private void history() {
        says("A history of at most 4 states is kept; when one more is recorded, the oldest one is dropped; undo() "
            + "removes and restores the latest one.");
        for (int acts = 0; acts <= 9; acts++) {
            tell(acts + " acts", Museums.rooms(acts), x -> x.count(14), Math.min(acts, 4));
            int oldest = Math.max(acts - 4, 0);
            answer(acts + " acts, as far back as can be", Museums.rooms(acts).then(Museums.undo(5)),
                x -> x.count(2), 1 + oldest);
        }
        answer("the latest one", Museums.rooms(5).then(Museums.undo(1)), x -> x.count(2), 5);
        answer("it is removed", Museums.rooms(5).then(Museums.undo(1)), x -> x.count(14), 3);
        answer("nothing is dropped for one that was removed", Museums.rooms(5).then(Museums.undo(2))
            .then(Museums.guards(2)).then(Museums.undo(4)),
            x -> x.count(2) * 10 + x.count(4), 20);
    }

    private void acts() {
        says("Each call of a method that is described as an act, and returns no error and not NONE, records the "
            + "state that was before it.");
        // those that answer 0, which is neither an error nor NONE
        act("setBound", Museums.rooms(1), x -> x.setBound(1, 5), 0);
        act("addDoor", Museums.rooms(1), x -> x.addDoor(0, 1, 1, -1), 0);
        act("exclude", NEW.then(x -> x.exclude(0, 1, true)), x -> x.exclude(0, 1, false), 0);
        act("closeZone", NEW.then(x -> x.openZone(1)), x -> x.closeZone(1), 0);
        act("addGuard", NEW, x -> x.addGuard(), 0);
        act("bringKey", Museums.guards(1).then(x -> x.takeKey(0, 1)), x -> x.bringKey(0, 1), 0);
        act("stop", ROW.then(x -> x.go(0, 1, 9)).then(x -> x.pass(1)), x -> x.stop(0), 0);
        act("addWork", ROW, x -> x.addWork(0, 1, 0), 0);
        act("takeAway", ROW.then(x -> x.addWork(0, 1, 0)), x -> x.takeAway(0), 0);
        act("pass", NEW, x -> x.pass(1), 0);
        act("restore", NEW.then(x -> x.keep()), x -> x.restore(), 0);
        // one of each of the others
        act("addRoom", NIGHT, x -> x.addRoom(0, 0), 4);
        act("openZone", NIGHT, x -> x.openZone(2), 3);
        act("takeKey", NIGHT, x -> x.takeKey(2, 1), 1);
        act("handKey", Museums.guards(2).then(x -> x.takeKey(0, 1)), x -> x.handKey(0, 1, 1), 1);
        act("go", NIGHT, x -> x.go(0, 1, 0), 1);
        act("moveWork", NIGHT.then(x -> x.pass(1)), x -> x.moveWork(1, 2), 3);
        act("clearAlarm", NIGHT.then(x -> x.pass(1)), x -> x.clearAlarm(1, 2), 6);
        act("nextNight", ROW, x -> x.nextNight(), 1);
        act("readOrders", NIGHT, x -> x.readOrders(2), 2);
    }

    private void snapshot() {
        says("There is one snapshot, empty at first. A state is everything but the text, the history and the "
            + "snapshot.");
        refuse("empty at first", ROW, x -> x.restore(), NONE);
        answer("just one", NEW.then(x -> x.keep()).then(x -> x.pass(1)).then(x -> x.keep()).then(x -> x.restore()),
            x -> x.restore(), 1);
        answer("the text is in none", NEW.then(x -> {
            x.type('1');
            x.keep();
            x.pass(1);
            x.type('2');
            x.restore();
            x.undo();
        }), x -> x.count(15), 2);
        answer("the history is in none", Museums.rooms(3).then(x -> x.keep()).then(Museums.undo(3))
            .then(x -> x.restore()),
            x -> x.count(14), 1);
        answer("the nights are in it", NEW.then(x -> x.nextNight()).then(x -> x.keep()).then(x -> x.nextNight())
            .then(x -> x.restore()), x -> x.count(1), 1);
        answer("the uses of doors are in it", Museums.WATCHED.then(x -> x.keep()).then(x -> x.go(0, 2, 0))
            .then(x -> x.pass(1)).then(x -> x.restore()), x -> x.door(1, 4), 0);
    }

    private void errors() {
        says("Where several errors can apply, the order of the @return line is the order of the checks.");
        refuse("UNKNOWN, BAD_VALUE and FULL", Museums.rooms(11), x -> x.addRoom(6, 241), UNKNOWN);
        refuse("UNKNOWN, BAD_VALUE and FULL of doors", Museums.doors(20), x -> x.addDoor(8, 8, 0, 8), UNKNOWN);
        refuse("BAD_VALUE, NOT_POSSIBLE and FULL of doors", Museums.doors(20), x -> x.addDoor(0, 1, 0, 8), BAD_VALUE);
        refuse("NOT_POSSIBLE and FULL of doors", Museums.doors(20), x -> x.addDoor(0, 1, 1, 7), NOT_POSSIBLE);
        says("NONE is no error; it is returned only if no error applies.");
        refuse("the bound of the guard room is 0 already", NEW, x -> x.setBound(0, 0), NOT_POSSIBLE);
        refuse("a zone to which a guard walks is closed already", NIGHT, x -> x.closeZone(2), NOT_POSSIBLE);
        refuse("a zone does not exclude itself already", NEW, x -> x.exclude(1, 1, false), BAD_VALUE);
        refuse("no orders at a place that is none", ROW, x -> x.orderAt(0, -1), BAD_VALUE);
        refuse("no stays at a place that is none", ROW, x -> x.stay(-1, 0), BAD_VALUE);
        says("A call that returns an error or NONE changes nothing.");
        refuse("UNKNOWN", NIGHT, x -> x.go(0, 4, 0), UNKNOWN);
        refuse("BAD_VALUE", NIGHT, x -> x.pass(61), BAD_VALUE);
        refuse("FULL", Museums.rooms(11), x -> x.addRoom(0, 0), FULL);
        refuse("NOT_POSSIBLE", NIGHT, x -> x.nextNight(), NOT_POSSIBLE);
        refuse("NONE", NIGHT, x -> x.openZone(0), NONE);
        refuse("a fault", NIGHT.then(x -> x.type(',')), x -> x.readOrders(2), -104);
        says("`UNKNOWN = -1`: There is no such room, door, zone, guard, key, work or alarm.");
        answer("UNKNOWN", NEW, x -> MuseumNights.UNKNOWN, -1);
        says("`BAD_VALUE = -2`: Another argument is out of range.");
        answer("BAD_VALUE", NEW, x -> MuseumNights.BAD_VALUE, -2);
        says("`FULL = -3`: There is no more room.");
        answer("FULL", NEW, x -> MuseumNights.FULL, -3);
        says("`NOT_POSSIBLE = -4`: This is not possible.");
        answer("NOT_POSSIBLE", NEW, x -> MuseumNights.NOT_POSSIBLE, -4);
        says("`NONE = -5`: There is no such thing; not an error.");
        answer("NONE", NEW, x -> MuseumNights.NONE, -5);
    }
}
