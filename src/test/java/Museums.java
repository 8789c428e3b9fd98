/** Museums in which tests begin. */
final class Museums {
    static final Acts NEW = x -> { };

    /**
     * Something of everything. Guard 0 walks to room 2 with 1 minute left and stays for 2 then, guard 1
     * walks to room 3 with 2 minutes left and has an order, guard 2 stands in the guard room and has an
     * order; it is the minute 7.
     */
    static final Acts NIGHT = x -> {
        x.addRoom(0, 5);
        x.addRoom(1, 0);
        x.addRoom(2, 30);
        x.addDoor(0, 1, 1, -1);
        x.addDoor(1, 2, 3, 3);
        x.addDoor(3, 0, 9, -1);
        x.exclude(0, 1, true);
        x.exclude(4, 5, true);
        x.openZone(0);
        x.openZone(4);
        x.addGuard();
        x.addGuard();
        x.addGuard();
        x.takeKey(0, 3);
        x.takeKey(0, 5);
        x.takeKey(1, 0);
        x.addWork(0, 1, 0);
        x.addWork(1, 1, 1);
        x.addWork(2, 2, 4);
        x.addWork(2, 3, 99);
        x.takeAway(3);
        x.go(0, 1, 4);
        x.go(0, 2, 2);
        x.go(1, 3, 5);
        x.go(1, 0, 0);
        x.pass(4);
        x.keep();
        x.clearAlarm(0, 0);
        x.pass(3);
        type(x, "1+2");
        x.go(2, 1, 3);
    };

    /** Room 1 is watched in the minutes 1 to 3 and 11 to 19, the guard room in 5 to 9, room 2 never. */
    static final Acts WATCHED = row(1).then(x -> {
        x.go(0, 1, 3);
        x.go(0, 0, 5);
        x.go(0, 1, 0);
        x.pass(20);
    });

    /** An alarm of each cause: 0 in room 1 and the minute 0, then 1 in room 2 and 2 in room 1, in the minute 1. */
    static final Acts ALARMS = row(1).then(x -> {
        x.setBound(2, 1);
        x.closeZone(0);
        x.addWork(1, 1, 0);
        x.go(0, 1, 0);
        x.pass(2);
    });

    private Museums() {
    }

    static void type(MuseumNights x, String signs) {
        for (int i = 0; i < signs.length(); i++) {
            x.type(signs.charAt(i));
        }
    }

    static Acts typed(String signs) {
        return x -> type(x, signs);
    }

    /** So many rooms besides the guard room, in the zones 0, 1 and so on around. */
    static Acts rooms(int added) {
        return x -> {
            for (int room = 1; room <= added; room++) {
                x.addRoom((room - 1) % 6, 0);
            }
        };
    }

    /** So many doors, between the rooms 1 and 0, 2 and 0, 2 and 1, 3 and 0 and so on. */
    static Acts doors(int added) {
        return rooms(7).then(x -> {
            int doors = 0;
            for (int room = 1; room <= 7; room++) {
                for (int other = 0; other < room && doors < added; other++) {
                    x.addDoor(room, other, 1, -1);
                    doors++;
                }
            }
        });
    }

    static Acts guards(int added) {
        return x -> {
            for (int guard = 0; guard < added; guard++) {
                x.addGuard();
            }
        };
    }

    /** Room 1 (zone 0) behind the guard room, room 2 (zone 1) behind room 1, each a minute away; guards. */
    static Acts row(int guards) {
        return x -> {
            x.addRoom(0, 0);
            x.addRoom(1, 0);
            x.addDoor(0, 1, 1, -1);
            x.addDoor(1, 2, 1, -1);
            x.openZone(0);
            x.openZone(1);
            guards(guards).on(x);
        };
    }

    /** Ten works in room 1, which the guard has visited so many times: each time all ten were troubled. */
    static Acts crowded(int visits) {
        return row(1).then(x -> {
            for (int work = 0; work < 10; work++) {
                x.addWork(1, 1, 0);
            }
            for (int time = 0; time < visits; time++) {
                visit(x);
            }
        });
    }

    /** The guard goes to room 1, watches it for a minute, and comes back; answers the alarms. */
    static int visit(MuseumNights x) {
        x.go(0, 1, 1);
        x.go(0, 0, 0);
        return x.pass(3);
    }

    static Acts undo(int times) {
        return x -> {
            for (int time = 0; time < times; time++) {
                x.undo();
            }
        };
    }

    /** Lets many minutes pass, 60 at a time. */
    static Acts pass(int minutes) {
        return x -> passMany(x, minutes);
    }

    /** Lets many minutes pass, 60 at a time, and answers the alarms in them. */
    static int passMany(MuseumNights x, int minutes) {
        int alarms = 0;
        for (int left = minutes; left > 0; left -= 60) {
            alarms += x.pass(Math.min(left, 60));
        }
        return alarms;
    }
}
