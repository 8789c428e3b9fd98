import java.util.Arrays;

/**
 * A museum by night, minute by minute. What each public method promises stands in the document
 * (shared/DOC.md) under its name; README.md tells how the classes in here share the work.
 */
public final class MuseumNights {
    public static final int UNKNOWN = -1;
    public static final int BAD_VALUE = -2;
    public static final int FULL = -3;
    public static final int NOT_POSSIBLE = -4;
    public static final int NONE = -5;

    private static final int ROOM_LIMIT = 12;
    private static final int DOOR_LIMIT = 20;
    private static final int ZONE_COUNT = 6;
    private static final int GUARD_LIMIT = 4;
    private static final int KEY_COUNT = 8;
    private static final int KEYS_OF_GUARD = 3;
    private static final int ORDER_LIMIT = 12;
    private static final int WORK_LIMIT = 10;
    private static final int ALARM_LIMIT = 40;
    private static final int LAST_MINUTE = 720;
    private static final int TEXT_LIMIT = 60;
    private static final int HISTORY_LIMIT = 4;

    private static final int GUARD_ROOM = 0;
    private static final int NO_KEY = -1;
    private static final int LONGEST_BOUND = 240;
    private static final int LONGEST_DOOR = 9;
    private static final int LONGEST_STAY = 99;
    private static final int LARGEST_LIMIT = 99;
    private static final int LONGEST_PASS = 60;

    private static final int KIND_OPEN = 0;
    private static final int KIND_CROWDED = 1;
    private static final int KIND_ALONE = 2;

    private static final int FINE = 0;
    private static final int TROUBLED = 1;
    private static final int TAKEN_AWAY = 2;

    private static final int CAUSE_CLOSED_ZONE = 0;
    private static final int CAUSE_BOUND = 1;
    private static final int CAUSE_WORK = 2;

    /** An order is held as one number, just as orderAt tells it. */
    private static final int ROOM_IN_ORDER = 100;
    private static final int FIRST_FAULT = -100;

    private final Museum now;
    private final Museum kept;
    /** For alarmsIn alone: the minutes that are foretold pass in it. */
    private final Museum foretold;
    private final History history;
    private final Text text;
    private boolean hasKept;

    public MuseumNights() {
        now = new Museum();
        kept = new Museum();
        foretold = new Museum();
        history = new History();
        text = new Text();
        hasKept = false;
    }

    // ---- the house

    public int addRoom(int zone, int bound) {
        if (!Zones.isZone(zone)) {
            return UNKNOWN;
        }
        if (!isWithin(bound, 0, LONGEST_BOUND)) {
            return BAD_VALUE;
        }
        if (now.rooms.size() >= ROOM_LIMIT) {
            return FULL;
        }
        history.record(now);
        return now.rooms.add(zone, bound);
    }

    public int addDoor(int room, int other, int minutes, int key) {
        if (!now.rooms.has(room) || !now.rooms.has(other)) {
            return UNKNOWN;
        }
        if (!isWithin(minutes, 1, LONGEST_DOOR) || !isKeyOrNone(key) || room == other) {
            return BAD_VALUE;
        }
        if (now.doors.between(room, other) != NONE) {
            return NOT_POSSIBLE;
        }
        if (now.doors.size() >= DOOR_LIMIT) {
            return FULL;
        }
        history.record(now);
        return now.doors.add(room, other, minutes, key == NO_KEY ? NONE : key);
    }

    public int setBound(int room, int bound) {
        if (!now.rooms.has(room)) {
            return UNKNOWN;
        }
        if (!isWithin(bound, 0, LONGEST_BOUND)) {
            return BAD_VALUE;
        }
        if (room == GUARD_ROOM) {
            return NOT_POSSIBLE;
        }
        int previous = now.rooms.boundOf(room);
        if (previous == bound) {
            return NONE;
        }
        history.record(now);
        now.rooms.changeBound(room, bound);
        return previous;
    }

    public int exclude(int zone, int other, boolean is) {
        if (!Zones.isZone(zone) || !Zones.isZone(other)) {
            return UNKNOWN;
        }
        if (zone == other) {
            return BAD_VALUE;
        }
        if (is && now.zones.isOpen(zone) && now.zones.isOpen(other)) {
            return NOT_POSSIBLE;
        }
        if (now.zones.excludes(zone, other) == is) {
            return NONE;
        }
        history.record(now);
        now.zones.changeExclusion(zone, other, is);
        return Integer.bitCount(now.zones.excludedBy(zone));
    }

    public int openZone(int zone) {
        if (!Zones.isZone(zone)) {
            return UNKNOWN;
        }
        if (now.zones.isBarred(zone)) {
            return NOT_POSSIBLE;
        }
        if (now.zones.isOpen(zone)) {
            return NONE;
        }
        history.record(now);
        now.zones.changeOpen(zone, true);
        return now.zones.openCount();
    }

    public int closeZone(int zone) {
        if (!Zones.isZone(zone)) {
            return UNKNOWN;
        }
        if (now.isZoneInUse(zone)) {
            return NOT_POSSIBLE;
        }
        if (!now.zones.isOpen(zone)) {
            return NONE;
        }
        history.record(now);
        now.zones.changeOpen(zone, false);
        return now.zones.openCount();
    }

    // ---- guards and keys

    public int addGuard() {
        if (now.guards.size() >= GUARD_LIMIT) {
            return FULL;
        }
        history.record(now);
        return now.guards.add(now.minute);
    }

    public int takeKey(int guard, int key) {
        if (!now.guards.has(guard) || !Keys.isKey(key)) {
            return UNKNOWN;
        }
        if (!now.guards.isIn(guard, GUARD_ROOM) || now.keys.holderOf(key) != NONE) {
            return NOT_POSSIBLE;
        }
        if (now.keys.countOf(guard) >= KEYS_OF_GUARD) {
            return FULL;
        }
        history.record(now);
        now.keys.give(key, guard);
        return now.keys.countOf(guard);
    }

    public int bringKey(int guard, int key) {
        if (!now.guards.has(guard) || !Keys.isKey(key)) {
            return UNKNOWN;
        }
        if (!now.guards.isIn(guard, GUARD_ROOM) || now.keys.holderOf(key) != guard) {
            return NOT_POSSIBLE;
        }
        history.record(now);
        now.keys.give(key, NONE);
        return now.keys.countOf(guard);
    }

    public int handKey(int guard, int other, int key) {
        if (!now.guards.has(guard) || !now.guards.has(other) || !Keys.isKey(key)) {
            return UNKNOWN;
        }
        if (guard == other) {
            return BAD_VALUE;
        }
        if (!now.guards.areTogether(guard, other) || now.keys.holderOf(key) != guard) {
            return NOT_POSSIBLE;
        }
        if (now.keys.countOf(other) >= KEYS_OF_GUARD) {
            return FULL;
        }
        history.record(now);
        now.keys.give(key, other);
        return now.keys.countOf(other);
    }

    public int go(int guard, int room, int stay) {
        if (!now.guards.has(guard) || !now.rooms.has(room)) {
            return UNKNOWN;
        }
        if (!isWithin(stay, 0, LONGEST_STAY)) {
            return BAD_VALUE;
        }
        if (now.guards.orderCount(guard) >= ORDER_LIMIT) {
            return FULL;
        }
        history.record(now);
        now.guards.addOrder(guard, ROOM_IN_ORDER * room + stay);
        return now.guards.orderCount(guard);
    }

    public int stop(int guard) {
        if (!now.guards.has(guard)) {
            return UNKNOWN;
        }
        int dropped = now.guards.orderCount(guard);
        if (dropped == 0 && now.guards.stayLeft(guard) == 0) {
            return NONE;
        }
        history.record(now);
        now.guards.dropOrders(guard);
        now.guards.endStay(guard);
        return dropped;
    }

    // ---- works and alarms

    public int addWork(int kind, int room, int limit) {
        if (!isExhibitionRoom(room)) {
            return UNKNOWN;
        }
        if (!isWithin(kind, KIND_OPEN, KIND_ALONE) || !isWithin(limit, 0, LARGEST_LIMIT)) {
            return BAD_VALUE;
        }
        if (now.works.size() >= WORK_LIMIT) {
            return FULL;
        }
        history.record(now);
        return now.works.add(kind, room, limit);
    }

    public int moveWork(int work, int room) {
        if (!now.works.has(work) || !isExhibitionRoom(room)) {
            return UNKNOWN;
        }
        int from = now.works.roomOf(work);
        int door = now.doors.between(from, room);
        if (now.works.isTakenAway(work) || now.guards.countIn(from) == 0 || door == NONE) {
            return NOT_POSSIBLE;
        }
        history.record(now);
        now.works.changeRoom(work, room);
        return now.doors.minutesOf(door);
    }

    public int takeAway(int work) {
        if (!now.works.has(work)) {
            return UNKNOWN;
        }
        if (now.works.isTakenAway(work)) {
            return NONE;
        }
        history.record(now);
        int wasTroubled = now.works.isTroubled(work) ? 1 : 0;
        now.works.changeState(work, TAKEN_AWAY);
        return wasTroubled;
    }

    public int clearAlarm(int alarm, int guard) {
        if (!now.alarms.has(alarm) || !now.guards.has(guard)) {
            return UNKNOWN;
        }
        if (!now.guards.isIn(guard, now.alarms.roomOf(alarm))) {
            return NOT_POSSIBLE;
        }
        if (now.alarms.isCleared(alarm)) {
            return NONE;
        }
        history.record(now);
        now.alarms.markCleared(alarm, guard, now.minute);
        return now.minute - now.alarms.minuteOf(alarm);
    }

    // ---- time

    public int pass(int minutes) {
        if (!isWithin(minutes, 1, LONGEST_PASS)) {
            return BAD_VALUE;
        }
        if (now.minute + minutes > LAST_MINUTE) {
            return NOT_POSSIBLE;
        }
        history.record(now);
        return now.letPass(minutes);
    }

    public int nextNight() {
        if (now.keys.outCount() > 0) {
            return NOT_POSSIBLE;
        }
        history.record(now);
        now.beginNight();
        return now.nights;
    }

    // ---- texts

    public int type(char character) {
        if (text.length() >= TEXT_LIMIT) {
            return FULL;
        }
        text.append(character);
        return text.length();
    }

    public int clearText() {
        int length = text.length();
        text.clear();
        return length;
    }

    public int readOrders(int guard) {
        if (!now.guards.has(guard)) {
            return UNKNOWN;
        }
        int fault = text.read();
        if (fault != NONE) {
            return FIRST_FAULT - fault;
        }
        if (!now.rooms.has(text.largestRoom())) {
            return UNKNOWN;
        }
        if (now.guards.orderCount(guard) + text.orderCount() > ORDER_LIMIT) {
            return FULL;
        }
        history.record(now);
        for (int place = 0; place < text.orderCount(); place++) {
            now.guards.addOrder(guard, text.orderOf(place));
        }
        return now.guards.orderCount(guard);
    }

    // ---- history

    public int undo() {
        if (history.size() == 0) {
            return NONE;
        }
        history.giveBack(now);
        return history.size();
    }

    public int keep() {
        kept.copyFrom(now);
        hasKept = true;
        return now.minute;
    }

    public int restore() {
        if (!hasKept) {
            return NONE;
        }
        history.record(now);
        now.copyFrom(kept);
        return now.minute;
    }

    // ---- what is told

    public int room(int room, int what) {
        if (!now.rooms.has(room)) {
            return UNKNOWN;
        }
        switch (what) {
            case 0: return now.rooms.zoneOf(room);
            case 1: return now.rooms.boundOf(room);
            case 2: return now.rooms.watchedFor(room);
            case 3: return now.rooms.unwatchedFor(room);
            case 4: return now.rooms.longestGapOf(room);
            case 5: return now.rooms.watchedMinutesOf(room);
            case 6: return now.guards.countIn(room);
            case 7: return now.works.countIn(room);
            case 8: return now.alarms.openIn(room);
            default: return BAD_VALUE;
        }
    }

    public int door(int door, int what) {
        if (!now.doors.has(door)) {
            return UNKNOWN;
        }
        switch (what) {
            case 0: return now.doors.oneRoomOf(door);
            case 1: return now.doors.otherRoomOf(door);
            case 2: return now.doors.minutesOf(door);
            case 3: return now.doors.keyOf(door);
            case 4: return now.doors.usesOf(door);
            default: return BAD_VALUE;
        }
    }

    public int zone(int zone, int what) {
        if (!Zones.isZone(zone)) {
            return UNKNOWN;
        }
        boolean isOpen = now.zones.isOpen(zone);
        switch (what) {
            case 0: return isOpen ? 1 : 0;
            case 1: return now.zones.excludedBy(zone);
            case 2: return now.rooms.countOf(zone);
            case 3: return now.guardsInZone(zone);
            case 4: return !isOpen && !now.zones.isBarred(zone) ? 1 : 0;
            default: return BAD_VALUE;
        }
    }

    public int guard(int guard, int what) {
        if (!now.guards.has(guard)) {
            return UNKNOWN;
        }
        switch (what) {
            case 0: return now.guards.roomOf(guard);
            case 1: return now.guards.targetOf(guard);
            case 2: return now.guards.walkLeft(guard);
            case 3: return now.guards.stayLeft(guard);
            case 4: return now.guards.orderCount(guard);
            case 5: return now.keys.bitsOf(guard);
            case 6: return now.guards.haltsOf(guard);
            case 7: return now.guards.arrivalsOf(guard);
            default: return BAD_VALUE;
        }
    }

    public int orderAt(int guard, int place) {
        if (!now.guards.has(guard)) {
            return UNKNOWN;
        }
        return place < 0 ? BAD_VALUE : now.guards.orderOf(guard, place);
    }

    public int holder(int key) {
        return Keys.isKey(key) ? now.keys.holderOf(key) : UNKNOWN;
    }

    public int work(int work, int what) {
        if (!now.works.has(work)) {
            return UNKNOWN;
        }
        switch (what) {
            case 0: return now.works.kindOf(work);
            case 1: return now.works.roomOf(work);
            case 2: return now.works.limitOf(work);
            case 3: return now.works.stateOf(work);
            case 4: return now.works.alarmsOf(work);
            default: return BAD_VALUE;
        }
    }

    public int alarm(int alarm, int what) {
        if (!now.alarms.has(alarm)) {
            return UNKNOWN;
        }
        switch (what) {
            case 0: return now.alarms.causeOf(alarm);
            case 1: return now.alarms.roomOf(alarm);
            case 2: return now.alarms.minuteOf(alarm);
            case 3: return now.alarms.clearerOf(alarm);
            case 4: return now.alarms.clearedMinuteOf(alarm);
            default: return BAD_VALUE;
        }
    }

    public int stay(int back, int what) {
        if (back < 0 || !isWithin(what, 0, Log.PARTS_OF_STAY - 1)) {
            return BAD_VALUE;
        }
        return now.log.partOfStay(back, what);
    }

    public int gap(int room, int from, int until) {
        if (!now.rooms.has(room)) {
            return UNKNOWN;
        }
        if (from < 0 || until < from || until > now.minute) {
            return BAD_VALUE;
        }
        return now.log.longestGap(room, from, until);
    }

    public int way(int guard, int room) {
        if (!now.guards.has(guard) || !now.rooms.has(room)) {
            return UNKNOWN;
        }
        return now.minutesTo(guard, room);
    }

    public int firstDue() {
        return now.rooms.firstDueRoom();
    }

    public int alarmsIn(int minutes) {
        if (!isWithin(minutes, 1, LONGEST_PASS)) {
            return BAD_VALUE;
        }
        if (now.minute + minutes > LAST_MINUTE) {
            return NOT_POSSIBLE;
        }
        foretold.copyFrom(now);
        return foretold.letPass(minutes);
    }

    public int count(int what) {
        switch (what) {
            case 0: return now.minute;
            case 1: return now.nights;
            case 2: return now.rooms.size();
            case 3: return now.doors.size();
            case 4: return now.guards.size();
            case 5: return now.works.size();
            case 6: return now.works.troubledCount();
            case 7: return now.alarms.size();
            case 8: return now.alarms.openCount();
            case 9: return now.alarms.lostCount();
            case 10: return now.zones.openCount();
            case 11: return now.keys.outCount();
            case 12: return now.log.stayCount();
            case 13: return now.guards.haltCount();
            case 14: return history.size();
            case 15: return text.length();
            default: return BAD_VALUE;
        }
    }

    private static boolean isWithin(int value, int least, int greatest) {
        return value >= least && value <= greatest;
    }

    private static boolean isKeyOrNone(int key) {
        return key == NO_KEY || Keys.isKey(key);
    }

    private boolean isExhibitionRoom(int room) {
        return room != GUARD_ROOM && now.rooms.has(room);
    }

    /** A state: everything but the text, the history and the snapshot. */
    private static final class Museum {
        private final Rooms rooms = new Rooms();
        private final Doors doors = new Doors();
        private final Zones zones = new Zones();
        private final Keys keys = new Keys();
        private final Guards guards = new Guards();
        private final Works works = new Works();
        private final Alarms alarms = new Alarms();
        private final Log log = new Log();
        private int minute = 0;
        private int nights = 0;

        void copyFrom(Museum source) {
            rooms.copyFrom(source.rooms);
            doors.copyFrom(source.doors);
            zones.copyFrom(source.zones);
            keys.copyFrom(source.keys);
            guards.copyFrom(source.guards);
            works.copyFrom(source.works);
            alarms.copyFrom(source.alarms);
            log.copyFrom(source.log, source.minute);
            minute = source.minute;
            nights = source.nights;
        }

        void beginNight() {
            minute = 0;
            nights++;
            rooms.forgetNight();
            zones.closeAll();
            guards.forgetNight();
            works.clear();
            alarms.clear();
            log.clear();
        }

        /** Answers how many alarms there were in the minutes. */
        int letPass(int minutes) {
            int before = alarms.raisedCount();
            for (int passed = 0; passed < minutes; passed++) {
                letGuardsSetOff();
                watchRooms();
                letGuardsWalk();
                checkBounds();
                lookAtWorks();
                minute++;
            }
            return alarms.raisedCount() - before;
        }

        private void letGuardsSetOff() {
            for (int guard = 0; guard < guards.size(); guard++) {
                if (guards.isWalking(guard)) {
                    continue;
                }
                if (guards.stayLeft(guard) > 0) {
                    guards.shortenStay(guard);
                } else if (guards.orderCount(guard) > 0) {
                    followFirstOrder(guard);
                }
            }
        }

        private void followFirstOrder(int guard) {
            int from = guards.roomOf(guard);
            int order = guards.removeFirstOrder(guard);
            int target = order / ROOM_IN_ORDER;
            int door = doors.between(from, target);
            if (door == NONE || !doors.isPassable(door, keys.bitsOf(guard))) {
                guards.halt(guard);
                return;
            }
            log.noteStay(guard, from, guards.stoodSince(guard), minute);
            doors.noteUse(door);
            guards.startWalk(guard, target, doors.minutesOf(door), order % ROOM_IN_ORDER);
        }

        private void watchRooms() {
            int watched = guards.roomBits();
            rooms.noteMinute(watched);
            log.noteWatched(minute, watched);
        }

        private void letGuardsWalk() {
            for (int guard = 0; guard < guards.size(); guard++) {
                if (!guards.isWalking(guard)) {
                    continue;
                }
                guards.shortenWalk(guard);
                if (guards.walkLeft(guard) <= 0) {
                    guards.arrive(guard, minute + 1);
                    checkArrival(guards.roomOf(guard));
                }
            }
        }

        private void checkArrival(int room) {
            int zone = rooms.zoneOf(room);
            if (Zones.isZone(zone) && !zones.isOpen(zone)) {
                alarms.raise(CAUSE_CLOSED_ZONE, room, minute);
            }
        }

        private void checkBounds() {
            for (int room = 0; room < rooms.size(); room++) {
                int bound = rooms.boundOf(room);
                if (bound > 0 && rooms.unwatchedFor(room) == bound + 1) {
                    alarms.raise(CAUSE_BOUND, room, minute);
                }
            }
        }

        private void lookAtWorks() {
            for (int work = 0; work < works.size(); work++) {
                if (works.isTakenAway(work)) {
                    continue;
                }
                boolean isTroubled = mustBeTroubled(work);
                if (isTroubled && !works.isTroubled(work)) {
                    works.noteAlarm(work);
                    alarms.raise(CAUSE_WORK, works.roomOf(work), minute);
                }
                works.changeState(work, isTroubled ? TROUBLED : FINE);
            }
        }

        private boolean mustBeTroubled(int work) {
            int room = works.roomOf(work);
            int limit = works.limitOf(work);
            switch (works.kindOf(work)) {
                case KIND_OPEN: return zones.isOpen(rooms.zoneOf(room)) && rooms.watchedFor(room) == 0;
                case KIND_CROWDED: return rooms.watchedFor(room) > limit;
                default: return rooms.unwatchedFor(room) > limit;
            }
        }

        /** Whether a guard stands in a room of the zone, or walks to one. */
        boolean isZoneInUse(int zone) {
            for (int guard = 0; guard < guards.size(); guard++) {
                if (rooms.zoneOf(guards.roomOf(guard)) == zone
                        || rooms.zoneOf(guards.targetOf(guard)) == zone) {
                    return true;
                }
            }
            return false;
        }

        int guardsInZone(int zone) {
            int found = 0;
            for (int guard = 0; guard < guards.size(); guard++) {
                if (rooms.zoneOf(guards.roomOf(guard)) == zone) {
                    found++;
                }
            }
            return found;
        }

        int minutesTo(int guard, int room) {
            boolean isWalking = guards.isWalking(guard);
            int from = isWalking ? guards.targetOf(guard) : guards.roomOf(guard);
            int ahead = isWalking ? guards.walkLeft(guard) : 0;
            int minutes = doors.fewestMinutes(from, room, keys.bitsOf(guard));
            return minutes == NONE ? NONE : ahead + minutes;
        }
    }

    private static final class Rooms {
        private final int[] zone = new int[ROOM_LIMIT];
        private final int[] bound = new int[ROOM_LIMIT];
        private final int[] watchedRun = new int[ROOM_LIMIT];
        private final int[] unwatchedRun = new int[ROOM_LIMIT];
        private final int[] longestGap = new int[ROOM_LIMIT];
        private final int[] watchedMinutes = new int[ROOM_LIMIT];
        private int size;

        Rooms() {
            zone[GUARD_ROOM] = NONE;
            size = 1;
        }

        void copyFrom(Rooms source) {
            size = source.size;
            System.arraycopy(source.zone, 0, zone, 0, size);
            System.arraycopy(source.bound, 0, bound, 0, size);
            System.arraycopy(source.watchedRun, 0, watchedRun, 0, size);
            System.arraycopy(source.unwatchedRun, 0, unwatchedRun, 0, size);
            System.arraycopy(source.longestGap, 0, longestGap, 0, size);
            System.arraycopy(source.watchedMinutes, 0, watchedMinutes, 0, size);
        }

        int size() {
            return size;
        }

        boolean has(int room) {
            return room >= 0 && room < size;
        }

        int add(int zoneOfRoom, int boundOfRoom) {
            if (size >= ROOM_LIMIT) {
                return FULL;
            }
            zone[size] = zoneOfRoom;
            bound[size] = boundOfRoom;
            forgetNightOf(size);
            size++;
            return size - 1;
        }

        void forgetNight() {
            for (int room = 0; room < size; room++) {
                forgetNightOf(room);
            }
        }

        private void forgetNightOf(int room) {
            watchedRun[room] = 0;
            unwatchedRun[room] = 0;
            longestGap[room] = 0;
            watchedMinutes[room] = 0;
        }

        /** The bit of each room that is watched in the minute is set. */
        void noteMinute(int watchedBits) {
            for (int room = 0; room < size; room++) {
                if ((watchedBits >> room & 1) != 0) {
                    watchedRun[room]++;
                    watchedMinutes[room]++;
                    unwatchedRun[room] = 0;
                } else {
                    unwatchedRun[room]++;
                    watchedRun[room] = 0;
                    longestGap[room] = Math.max(longestGap[room], unwatchedRun[room]);
                }
            }
        }

        void changeBound(int room, int boundOfRoom) {
            if (has(room)) {
                bound[room] = boundOfRoom;
            }
        }

        int zoneOf(int room) {
            return has(room) ? zone[room] : NONE;
        }

        int boundOf(int room) {
            return has(room) ? bound[room] : 0;
        }

        int watchedFor(int room) {
            return has(room) ? watchedRun[room] : 0;
        }

        int unwatchedFor(int room) {
            return has(room) ? unwatchedRun[room] : 0;
        }

        int longestGapOf(int room) {
            return has(room) ? longestGap[room] : 0;
        }

        int watchedMinutesOf(int room) {
            return has(room) ? watchedMinutes[room] : 0;
        }

        int countOf(int zoneOfRooms) {
            int found = 0;
            for (int room = 0; room < size; room++) {
                if (zone[room] == zoneOfRooms) {
                    found++;
                }
            }
            return found;
        }

        int firstDueRoom() {
            int first = NONE;
            int fewestLeft = 0;
            for (int room = 0; room < size; room++) {
                int left = bound[room] + 1 - unwatchedRun[room];
                if (bound[room] > 0 && left > 0 && (first == NONE || left < fewestLeft)) {
                    first = room;
                    fewestLeft = left;
                }
            }
            return first;
        }
    }

    private static final class Doors {
        /** More than any way can take. */
        private static final int FAR = 1000;

        private final int[] oneRoom = new int[DOOR_LIMIT];
        private final int[] otherRoom = new int[DOOR_LIMIT];
        private final int[] minutes = new int[DOOR_LIMIT];
        private final int[] key = new int[DOOR_LIMIT];
        private final int[] uses = new int[DOOR_LIMIT];
        /** For fewestMinutes alone: kept so that no call makes one. */
        private final int[] reach = new int[ROOM_LIMIT];
        private int size = 0;

        void copyFrom(Doors source) {
            size = source.size;
            System.arraycopy(source.oneRoom, 0, oneRoom, 0, size);
            System.arraycopy(source.otherRoom, 0, otherRoom, 0, size);
            System.arraycopy(source.minutes, 0, minutes, 0, size);
            System.arraycopy(source.key, 0, key, 0, size);
            System.arraycopy(source.uses, 0, uses, 0, size);
        }

        int size() {
            return size;
        }

        boolean has(int door) {
            return door >= 0 && door < size;
        }

        int add(int one, int other, int minutesOfDoor, int keyOfDoor) {
            if (size >= DOOR_LIMIT) {
                return FULL;
            }
            oneRoom[size] = one;
            otherRoom[size] = other;
            minutes[size] = minutesOfDoor;
            key[size] = keyOfDoor;
            uses[size] = 0;
            size++;
            return size - 1;
        }

        int between(int one, int other) {
            for (int door = 0; door < size; door++) {
                if (oneRoom[door] == one && otherRoom[door] == other
                        || oneRoom[door] == other && otherRoom[door] == one) {
                    return door;
                }
            }
            return NONE;
        }

        boolean isPassable(int door, int keyBits) {
            return has(door) && (key[door] == NONE || (keyBits >> key[door] & 1) != 0);
        }

        void noteUse(int door) {
            if (has(door)) {
                uses[door]++;
            }
        }

        int oneRoomOf(int door) {
            return has(door) ? oneRoom[door] : NONE;
        }

        int otherRoomOf(int door) {
            return has(door) ? otherRoom[door] : NONE;
        }

        int minutesOf(int door) {
            return has(door) ? minutes[door] : NONE;
        }

        int keyOf(int door) {
            return has(door) ? key[door] : NONE;
        }

        int usesOf(int door) {
            return has(door) ? uses[door] : 0;
        }

        int fewestMinutes(int from, int to, int keyBits) {
            Arrays.fill(reach, FAR);
            shortenReach(from, 0);
            for (int round = 1; round < ROOM_LIMIT; round++) {
                for (int door = 0; door < size; door++) {
                    if (isPassable(door, keyBits)) {
                        shortenReach(otherRoom[door], reachOf(oneRoom[door]) + minutes[door]);
                        shortenReach(oneRoom[door], reachOf(otherRoom[door]) + minutes[door]);
                    }
                }
            }
            return reachOf(to) >= FAR ? NONE : reachOf(to);
        }

        private int reachOf(int room) {
            return room >= 0 && room < ROOM_LIMIT ? reach[room] : FAR;
        }

        private void shortenReach(int room, int minutesOfWay) {
            if (room >= 0 && room < ROOM_LIMIT && minutesOfWay < reach[room]) {
                reach[room] = minutesOfWay;
            }
        }
    }

    private static final class Zones {
        private final int[] excluded = new int[ZONE_COUNT];
        private int openBits = 0;

        static boolean isZone(int zone) {
            return zone >= 0 && zone < ZONE_COUNT;
        }

        void copyFrom(Zones source) {
            System.arraycopy(source.excluded, 0, excluded, 0, ZONE_COUNT);
            openBits = source.openBits;
        }

        boolean isOpen(int zone) {
            return isZone(zone) && (openBits >> zone & 1) != 0;
        }

        int openCount() {
            return Integer.bitCount(openBits);
        }

        void changeOpen(int zone, boolean is) {
            if (isZone(zone)) {
                openBits = withBit(openBits, zone, is);
            }
        }

        void closeAll() {
            openBits = 0;
        }

        int excludedBy(int zone) {
            return isZone(zone) ? excluded[zone] : 0;
        }

        boolean excludes(int zone, int other) {
            return isZone(other) && (excludedBy(zone) >> other & 1) != 0;
        }

        void changeExclusion(int zone, int other, boolean is) {
            if (isZone(zone) && isZone(other)) {
                excluded[zone] = withBit(excluded[zone], other, is);
                excluded[other] = withBit(excluded[other], zone, is);
            }
        }

        /** Whether a zone that it excludes is open. */
        boolean isBarred(int zone) {
            return (excludedBy(zone) & openBits) != 0;
        }

        private static int withBit(int bits, int place, boolean is) {
            return is ? bits | 1 << place : bits & ~(1 << place);
        }
    }

    private static final class Keys {
        /** The guard, or NONE for the cupboard. */
        private final int[] holders = new int[KEY_COUNT];

        Keys() {
            Arrays.fill(holders, NONE);
        }

        static boolean isKey(int key) {
            return key >= 0 && key < KEY_COUNT;
        }

        void copyFrom(Keys source) {
            System.arraycopy(source.holders, 0, holders, 0, KEY_COUNT);
        }

        int holderOf(int key) {
            return isKey(key) ? holders[key] : NONE;
        }

        void give(int key, int guardOrNone) {
            if (isKey(key)) {
                holders[key] = guardOrNone;
            }
        }

        int bitsOf(int guardOrNone) {
            int bits = 0;
            for (int key = 0; key < KEY_COUNT; key++) {
                if (holders[key] == guardOrNone) {
                    bits |= 1 << key;
                }
            }
            return bits;
        }

        int countOf(int guard) {
            return Integer.bitCount(bitsOf(guard));
        }

        int outCount() {
            return KEY_COUNT - Integer.bitCount(bitsOf(NONE));
        }
    }

    private static final class Guards {
        /** The room in which the guard stands; NONE while walking. */
        private final int[] standing = new int[GUARD_LIMIT];
        /** The room to which the guard walks, and the minutes left; both NONE while standing. */
        private final int[] target = new int[GUARD_LIMIT];
        private final int[] walk = new int[GUARD_LIMIT];
        /** The minutes left to stay, or, while walking, those that the walk's order will give. */
        private final int[] stayMinutes = new int[GUARD_LIMIT];
        /** The first minute of the present stay. */
        private final int[] since = new int[GUARD_LIMIT];
        private final int[] halts = new int[GUARD_LIMIT];
        private final int[] arrivals = new int[GUARD_LIMIT];
        private final int[] orderCounts = new int[GUARD_LIMIT];
        /** ORDER_LIMIT places for each guard, one guard behind the other. */
        private final int[] orders = new int[GUARD_LIMIT * ORDER_LIMIT];
        private int size = 0;

        void copyFrom(Guards source) {
            size = source.size;
            System.arraycopy(source.standing, 0, standing, 0, size);
            System.arraycopy(source.target, 0, target, 0, size);
            System.arraycopy(source.walk, 0, walk, 0, size);
            System.arraycopy(source.stayMinutes, 0, stayMinutes, 0, size);
            System.arraycopy(source.since, 0, since, 0, size);
            System.arraycopy(source.halts, 0, halts, 0, size);
            System.arraycopy(source.arrivals, 0, arrivals, 0, size);
            System.arraycopy(source.orderCounts, 0, orderCounts, 0, size);
            System.arraycopy(source.orders, 0, orders, 0, size * ORDER_LIMIT);
        }

        int size() {
            return size;
        }

        boolean has(int guard) {
            return guard >= 0 && guard < size;
        }

        int add(int minute) {
            if (size >= GUARD_LIMIT) {
                return FULL;
            }
            placeInGuardRoom(size, minute);
            size++;
            return size - 1;
        }

        void forgetNight() {
            for (int guard = 0; guard < size; guard++) {
                placeInGuardRoom(guard, 0);
            }
        }

        private void placeInGuardRoom(int guard, int minute) {
            standing[guard] = GUARD_ROOM;
            target[guard] = NONE;
            walk[guard] = NONE;
            stayMinutes[guard] = 0;
            since[guard] = minute;
            halts[guard] = 0;
            arrivals[guard] = 0;
            orderCounts[guard] = 0;
        }

        boolean isWalking(int guard) {
            return has(guard) && standing[guard] == NONE;
        }

        boolean isIn(int guard, int room) {
            return has(guard) && standing[guard] == room;
        }

        boolean areTogether(int guard, int other) {
            return !isWalking(guard) && isIn(other, roomOf(guard));
        }

        int countIn(int room) {
            int found = 0;
            for (int guard = 0; guard < size; guard++) {
                if (standing[guard] == room) {
                    found++;
                }
            }
            return found;
        }

        /** The bit of each room in which a guard stands is set. */
        int roomBits() {
            int bits = 0;
            for (int guard = 0; guard < size; guard++) {
                if (standing[guard] >= 0) {
                    bits |= 1 << standing[guard];
                }
            }
            return bits;
        }

        int roomOf(int guard) {
            return has(guard) ? standing[guard] : NONE;
        }

        int targetOf(int guard) {
            return has(guard) ? target[guard] : NONE;
        }

        int walkLeft(int guard) {
            return has(guard) ? walk[guard] : NONE;
        }

        int stayLeft(int guard) {
            return has(guard) && !isWalking(guard) ? stayMinutes[guard] : 0;
        }

        int stoodSince(int guard) {
            return has(guard) ? since[guard] : 0;
        }

        int haltsOf(int guard) {
            return has(guard) ? halts[guard] : 0;
        }

        int arrivalsOf(int guard) {
            return has(guard) ? arrivals[guard] : 0;
        }

        int haltCount() {
            int sum = 0;
            for (int guard = 0; guard < size; guard++) {
                sum += halts[guard];
            }
            return sum;
        }

        void startWalk(int guard, int room, int minutes, int stayOfOrder) {
            if (has(guard)) {
                standing[guard] = NONE;
                target[guard] = room;
                walk[guard] = minutes;
                stayMinutes[guard] = stayOfOrder;
            }
        }

        void shortenWalk(int guard) {
            if (isWalking(guard)) {
                walk[guard]--;
            }
        }

        void arrive(int guard, int firstMinute) {
            if (isWalking(guard)) {
                standing[guard] = target[guard];
                target[guard] = NONE;
                walk[guard] = NONE;
                since[guard] = firstMinute;
                arrivals[guard]++;
            }
        }

        void shortenStay(int guard) {
            if (stayLeft(guard) > 0) {
                stayMinutes[guard]--;
            }
        }

        /** The stay that a walk's order will give is left as it is. */
        void endStay(int guard) {
            if (has(guard) && !isWalking(guard)) {
                stayMinutes[guard] = 0;
            }
        }

        void halt(int guard) {
            if (has(guard)) {
                halts[guard]++;
                orderCounts[guard] = 0;
            }
        }

        int orderCount(int guard) {
            return has(guard) ? orderCounts[guard] : 0;
        }

        int orderOf(int guard, int place) {
            if (!has(guard) || place < 0 || place >= orderCounts[guard]) {
                return NONE;
            }
            return orders[guard * ORDER_LIMIT + place];
        }

        void addOrder(int guard, int order) {
            if (has(guard) && orderCounts[guard] < ORDER_LIMIT) {
                orders[guard * ORDER_LIMIT + orderCounts[guard]] = order;
                orderCounts[guard]++;
            }
        }

        int removeFirstOrder(int guard) {
            int first = orderOf(guard, 0);
            if (first != NONE) {
                int start = guard * ORDER_LIMIT;
                orderCounts[guard]--;
                System.arraycopy(orders, start + 1, orders, start, orderCounts[guard]);
            }
            return first;
        }

        void dropOrders(int guard) {
            if (has(guard)) {
                orderCounts[guard] = 0;
            }
        }
    }

    private static final class Works {
        private final int[] kind = new int[WORK_LIMIT];
        private final int[] place = new int[WORK_LIMIT];
        private final int[] limit = new int[WORK_LIMIT];
        private final int[] state = new int[WORK_LIMIT];
        private final int[] alarms = new int[WORK_LIMIT];
        private int size = 0;

        void copyFrom(Works source) {
            size = source.size;
            System.arraycopy(source.kind, 0, kind, 0, size);
            System.arraycopy(source.place, 0, place, 0, size);
            System.arraycopy(source.limit, 0, limit, 0, size);
            System.arraycopy(source.state, 0, state, 0, size);
            System.arraycopy(source.alarms, 0, alarms, 0, size);
        }

        int size() {
            return size;
        }

        boolean has(int work) {
            return work >= 0 && work < size;
        }

        void clear() {
            size = 0;
        }

        int add(int kindOfWork, int room, int limitOfWork) {
            if (size >= WORK_LIMIT) {
                return FULL;
            }
            kind[size] = kindOfWork;
            place[size] = room;
            limit[size] = limitOfWork;
            state[size] = FINE;
            alarms[size] = 0;
            size++;
            return size - 1;
        }

        void changeRoom(int work, int room) {
            if (has(work)) {
                place[work] = room;
            }
        }

        void changeState(int work, int stateOfWork) {
            if (has(work)) {
                state[work] = stateOfWork;
            }
        }

        void noteAlarm(int work) {
            if (has(work)) {
                alarms[work]++;
            }
        }

        boolean isTroubled(int work) {
            return stateOf(work) == TROUBLED;
        }

        boolean isTakenAway(int work) {
            return stateOf(work) == TAKEN_AWAY;
        }

        int kindOf(int work) {
            return has(work) ? kind[work] : NONE;
        }

        int roomOf(int work) {
            return has(work) ? place[work] : NONE;
        }

        int limitOf(int work) {
            return has(work) ? limit[work] : 0;
        }

        int stateOf(int work) {
            return has(work) ? state[work] : NONE;
        }

        int alarmsOf(int work) {
            return has(work) ? alarms[work] : 0;
        }

        int countIn(int room) {
            int found = 0;
            for (int work = 0; work < size; work++) {
                if (place[work] == room && state[work] != TAKEN_AWAY) {
                    found++;
                }
            }
            return found;
        }

        int troubledCount() {
            int found = 0;
            for (int work = 0; work < size; work++) {
                if (state[work] == TROUBLED) {
                    found++;
                }
            }
            return found;
        }
    }

    private static final class Alarms {
        private final int[] cause = new int[ALARM_LIMIT];
        private final int[] place = new int[ALARM_LIMIT];
        private final int[] raised = new int[ALARM_LIMIT];
        /** The guard who cleared the alarm, and the minute; both NONE if it is not cleared. */
        private final int[] clearer = new int[ALARM_LIMIT];
        private final int[] cleared = new int[ALARM_LIMIT];
        private int size = 0;
        private int lost = 0;

        void copyFrom(Alarms source) {
            size = source.size;
            lost = source.lost;
            System.arraycopy(source.cause, 0, cause, 0, size);
            System.arraycopy(source.place, 0, place, 0, size);
            System.arraycopy(source.raised, 0, raised, 0, size);
            System.arraycopy(source.clearer, 0, clearer, 0, size);
            System.arraycopy(source.cleared, 0, cleared, 0, size);
        }

        int size() {
            return size;
        }

        boolean has(int alarm) {
            return alarm >= 0 && alarm < size;
        }

        void clear() {
            size = 0;
            lost = 0;
        }

        void raise(int causeOfAlarm, int room, int minute) {
            if (size >= ALARM_LIMIT) {
                lost++;
                return;
            }
            cause[size] = causeOfAlarm;
            place[size] = room;
            raised[size] = minute;
            clearer[size] = NONE;
            cleared[size] = NONE;
            size++;
        }

        void markCleared(int alarm, int guard, int minute) {
            if (has(alarm)) {
                clearer[alarm] = guard;
                cleared[alarm] = minute;
            }
        }

        boolean isCleared(int alarm) {
            return clearerOf(alarm) != NONE;
        }

        int causeOf(int alarm) {
            return has(alarm) ? cause[alarm] : NONE;
        }

        int roomOf(int alarm) {
            return has(alarm) ? place[alarm] : NONE;
        }

        int minuteOf(int alarm) {
            return has(alarm) ? raised[alarm] : NONE;
        }

        int clearerOf(int alarm) {
            return has(alarm) ? clearer[alarm] : NONE;
        }

        int clearedMinuteOf(int alarm) {
            return has(alarm) ? cleared[alarm] : NONE;
        }

        int openIn(int room) {
            int found = 0;
            for (int alarm = 0; alarm < size; alarm++) {
                if (place[alarm] == room && clearer[alarm] == NONE) {
                    found++;
                }
            }
            return found;
        }

        int openCount() {
            int found = 0;
            for (int alarm = 0; alarm < size; alarm++) {
                if (clearer[alarm] == NONE) {
                    found++;
                }
            }
            return found;
        }

        int lostCount() {
            return lost;
        }

        int raisedCount() {
            return size + lost;
        }
    }

    /** What is remembered of the minutes of a night: the rooms watched, and the stays that are over. */
    private static final class Log {
        /** The guard, the room, the minute from which, and the minute up to which. */
        private static final int PARTS_OF_STAY = 4;
        /** In a minute each guard can end one stay. */
        private static final int STAY_LIMIT = GUARD_LIMIT * LAST_MINUTE;
        private static final int FIRST_CELLS = 16 * PARTS_OF_STAY;

        /** For each minute the bits of the rooms that were watched in it. */
        private final int[] watched = new int[LAST_MINUTE];
        /** PARTS_OF_STAY cells for each stay; grows, as hardly a night fills it. */
        private int[] stays = new int[FIRST_CELLS];
        private int stayCount = 0;

        void copyFrom(Log source, int minutes) {
            int passed = Math.min(Math.max(minutes, 0), LAST_MINUTE);
            System.arraycopy(source.watched, 0, watched, 0, passed);
            int cells = source.stayCount * PARTS_OF_STAY;
            provideCells(cells);
            System.arraycopy(source.stays, 0, stays, 0, cells);
            stayCount = source.stayCount;
        }

        void clear() {
            stayCount = 0;
        }

        int stayCount() {
            return stayCount;
        }

        void noteWatched(int minute, int roomBits) {
            if (minute >= 0 && minute < LAST_MINUTE) {
                watched[minute] = roomBits;
            }
        }

        void noteStay(int guard, int room, int from, int until) {
            if (stayCount >= STAY_LIMIT) {
                return;
            }
            int cell = stayCount * PARTS_OF_STAY;
            provideCells(cell + PARTS_OF_STAY);
            stays[cell] = guard;
            stays[cell + 1] = room;
            stays[cell + 2] = from;
            stays[cell + 3] = until;
            stayCount++;
        }

        private void provideCells(int cells) {
            if (cells > stays.length) {
                stays = Arrays.copyOf(stays, Math.max(cells, Math.min(2 * cells, STAY_LIMIT * PARTS_OF_STAY)));
            }
        }

        int partOfStay(int back, int part) {
            if (back < 0 || back >= stayCount || part < 0 || part >= PARTS_OF_STAY) {
                return NONE;
            }
            return stays[(stayCount - 1 - back) * PARTS_OF_STAY + part];
        }

        int longestGap(int room, int from, int until) {
            int longest = 0;
            int run = 0;
            for (int minute = Math.max(from, 0); minute < until && minute < LAST_MINUTE; minute++) {
                run = (watched[minute] >> room & 1) != 0 ? 0 : run + 1;
                longest = Math.max(longest, run);
            }
            return longest;
        }
    }

    /** The text of orders, with a reader that finds its fault. */
    private static final class Text {
        /** Each order but the last one takes two characters at least. */
        private static final int ORDERS_IN_TEXT = TEXT_LIMIT / 2 + 1;

        private final char[] signs = new char[TEXT_LIMIT];
        private int length = 0;
        /** What the latest reading found. */
        private final int[] orders = new int[ORDERS_IN_TEXT];
        private int orderCount = 0;
        /** The index of the first character that is not read yet. */
        private int place = 0;

        int length() {
            return length;
        }

        void append(char character) {
            if (length < TEXT_LIMIT) {
                signs[length] = character;
                length++;
            }
        }

        void clear() {
            length = 0;
        }

        int orderCount() {
            return orderCount;
        }

        int orderOf(int index) {
            return index >= 0 && index < orderCount ? orders[index] : NONE;
        }

        int largestRoom() {
            int largest = NONE;
            for (int index = 0; index < orderCount; index++) {
                largest = Math.max(largest, orders[index] / ROOM_IN_ORDER);
            }
            return largest;
        }

        /** Reads the whole text; answers its fault, or NONE if it has none. */
        int read() {
            place = 0;
            orderCount = 0;
            for (int index = 0; index < ORDERS_IN_TEXT; index++) {
                if (!readOrder()) {
                    return place;
                }
                if (place >= length) {
                    return NONE;
                }
                if (!skip(',')) {
                    return place;
                }
            }
            return place;
        }

        private boolean readOrder() {
            int room = readNumber();
            if (room < 0) {
                return false;
            }
            int stayOfOrder = 0;
            if (skip('+')) {
                stayOfOrder = readNumber();
                if (stayOfOrder < 0) {
                    return false;
                }
            }
            if (orderCount < ORDERS_IN_TEXT) {
                orders[orderCount] = ROOM_IN_ORDER * room + stayOfOrder;
                orderCount++;
            }
            return true;
        }

        /** One digit, or two of which the first is no zero; NONE if no digit stands there. */
        private int readNumber() {
            int number = digitHere();
            if (number < 0) {
                return NONE;
            }
            place++;
            int second = digitHere();
            if (number > 0 && second >= 0) {
                number = 10 * number + second;
                place++;
            }
            return number;
        }

        private int digitHere() {
            if (place < 0 || place >= length) {
                return NONE;
            }
            char sign = signs[place];
            return sign >= '0' && sign <= '9' ? sign - '0' : NONE;
        }

        private boolean skip(char sign) {
            if (place < 0 || place >= length || signs[place] != sign) {
                return false;
            }
            place++;
            return true;
        }
    }

    /** The states that undo can restore; their objects are used again and again. */
    private static final class History {
        private Museum latest = new Museum();
        private Museum second = new Museum();
        private Museum third = new Museum();
        private Museum fourth = new Museum();
        private int size = 0;

        int size() {
            return size;
        }

        /** The fourth state is dropped by writing over it. */
        void record(Museum state) {
            Museum written = fourth;
            fourth = third;
            third = second;
            second = latest;
            latest = written;
            latest.copyFrom(state);
            size = Math.min(size + 1, HISTORY_LIMIT);
        }

        /** Removes the latest state, and writes it into the museum. */
        void giveBack(Museum museum) {
            if (size == 0) {
                return;
            }
            Museum read = latest;
            latest = second;
            second = third;
            third = fourth;
            fourth = read;
            museum.copyFrom(read);
            size--;
        }
    }
}
