import java.util.ArrayDeque;
import java.util.ArrayList;
import java.util.Deque;
import java.util.List;
import java.util.TreeMap;
import java.util.regex.Matcher;
import java.util.regex.Pattern;

/**
 * The document once more, written for plainness alone: no counters that are kept up to date, but a
 * record of every minute, from which all that is told is worked out again. RandomRunsTest compares it
 * with the program.
 */
final class PlainMuseum {
    private static final int UNKNOWN = -1;
    private static final int BAD_VALUE = -2;
    private static final int FULL = -3;
    private static final int NOT_POSSIBLE = -4;
    private static final int NONE = -5;

    private static final class Room {
        int zone;
        int bound;
        int added; // the minute of this night from which on the room counts its minutes
    }

    private static final class Door {
        int one;
        int other;
        int minutes;
        int key;
        int uses;
    }

    private static final class Guard {
        Integer room = 0;
        Integer target;
        int walk;
        int stay;
        int stayAhead;
        int since;
        int halts;
        int arrivals;
        List<int[]> orders = new ArrayList<>();
    }

    private static final class Work {
        int kind;
        int room;
        int limit;
        boolean troubled;
        boolean gone;
        int alarms;
    }

    private static final class Alarm {
        int cause;
        int room;
        int minute;
        Integer clearer;
        Integer cleared;
    }

    private static final class State {
        List<Room> rooms = new ArrayList<>();
        List<Door> doors = new ArrayList<>();
        boolean[] open = new boolean[6];
        boolean[][] excludes = new boolean[6][6];
        List<Guard> guards = new ArrayList<>();
        Integer[] holders = new Integer[8];
        List<Work> works = new ArrayList<>();
        List<Alarm> alarms = new ArrayList<>();
        List<boolean[]> watched = new ArrayList<>();
        List<int[]> stays = new ArrayList<>();
        int nights;

        State copy() {
            State c = new State();
            for (Room r : rooms) {
                Room n = new Room();
                n.zone = r.zone;
                n.bound = r.bound;
                n.added = r.added;
                c.rooms.add(n);
            }
            for (Door d : doors) {
                Door n = new Door();
                n.one = d.one;
                n.other = d.other;
                n.minutes = d.minutes;
                n.key = d.key;
                n.uses = d.uses;
                c.doors.add(n);
            }
            c.open = open.clone();
            for (int zone = 0; zone < 6; zone++) {
                c.excludes[zone] = excludes[zone].clone();
            }
            for (Guard g : guards) {
                Guard n = new Guard();
                n.room = g.room;
                n.target = g.target;
                n.walk = g.walk;
                n.stay = g.stay;
                n.stayAhead = g.stayAhead;
                n.since = g.since;
                n.halts = g.halts;
                n.arrivals = g.arrivals;
                n.orders = new ArrayList<>(g.orders);
                c.guards.add(n);
            }
            c.holders = holders.clone();
            for (Work w : works) {
                Work n = new Work();
                n.kind = w.kind;
                n.room = w.room;
                n.limit = w.limit;
                n.troubled = w.troubled;
                n.gone = w.gone;
                n.alarms = w.alarms;
                c.works.add(n);
            }
            for (Alarm a : alarms) {
                Alarm n = new Alarm();
                n.cause = a.cause;
                n.room = a.room;
                n.minute = a.minute;
                n.clearer = a.clearer;
                n.cleared = a.cleared;
                c.alarms.add(n);
            }
            c.watched = new ArrayList<>(watched);
            c.stays = new ArrayList<>(stays);
            c.nights = nights;
            return c;
        }
    }

    private State s = new State();
    private final Deque<State> history = new ArrayDeque<>();
    private State snapshot;
    private final StringBuilder text = new StringBuilder();

    PlainMuseum() {
        Room guardRoom = new Room();
        guardRoom.zone = NONE;
        s.rooms.add(guardRoom);
    }

    // ---- what the calls share

    private void record() {
        history.addLast(s.copy());
        if (history.size() > 4) {
            history.removeFirst();
        }
    }

    private int minute() {
        return s.watched.size();
    }

    private boolean noRoom(int room) {
        return room < 0 || room >= s.rooms.size();
    }

    private boolean noGuard(int guard) {
        return guard < 0 || guard >= s.guards.size();
    }

    private static boolean noZone(int zone) {
        return zone < 0 || zone > 5;
    }

    private static boolean noKey(int key) {
        return key < 0 || key > 7;
    }

    private boolean noWork(int work) {
        return work < 0 || work >= s.works.size();
    }

    private boolean noAlarm(int alarm) {
        return alarm < 0 || alarm >= notedAlarms();
    }

    private int notedAlarms() {
        return Math.min(s.alarms.size(), 40);
    }

    private boolean stands(int guard, int room) {
        Integer at = s.guards.get(guard).room;
        return at != null && at == room;
    }

    private boolean has(int guard, int key) {
        return s.holders[key] != null && s.holders[key] == guard;
    }

    private int keysOf(int guard) {
        int n = 0;
        for (int key = 0; key < 8; key++) {
            n += has(guard, key) ? 1 : 0;
        }
        return n;
    }

    private int openZones() {
        int n = 0;
        for (boolean is : s.open) {
            n += is ? 1 : 0;
        }
        return n;
    }

    private Door doorBetween(int one, int other) {
        for (Door d : s.doors) {
            if (d.one == one && d.other == other || d.one == other && d.other == one) {
                return d;
            }
        }
        return null;
    }

    private boolean wasWatched(int room, int minute) {
        boolean[] rooms = s.watched.get(minute);
        return room < rooms.length && rooms[room];
    }

    /** The minutes in a row up to now in which the room was watched, or was not. */
    private int inARow(int room, boolean watched) {
        int n = 0;
        for (int m = minute() - 1; m >= s.rooms.get(room).added && wasWatched(room, m) == watched; m--) {
            n++;
        }
        return n;
    }

    private int gapWithin(int room, int from, int until) {
        int longest = 0;
        for (int first = from; first < until; first++) {
            int behind = first;
            while (behind < until && !wasWatched(room, behind)) {
                behind++;
            }
            longest = Math.max(longest, behind - first);
            first = behind;
        }
        return longest;
    }

    // ---- the house

    int addRoom(int zone, int bound) {
        if (noZone(zone)) return UNKNOWN;
        if (bound < 0 || bound > 240) return BAD_VALUE;
        if (s.rooms.size() == 12) return FULL;
        record();
        Room r = new Room();
        r.zone = zone;
        r.bound = bound;
        r.added = minute();
        s.rooms.add(r);
        return s.rooms.size() - 1;
    }

    int addDoor(int room, int other, int minutes, int key) {
        if (noRoom(room) || noRoom(other)) return UNKNOWN;
        if (minutes < 1 || minutes > 9 || key < -1 || key > 7 || room == other) return BAD_VALUE;
        if (doorBetween(room, other) != null) return NOT_POSSIBLE;
        if (s.doors.size() == 20) return FULL;
        record();
        Door d = new Door();
        d.one = room;
        d.other = other;
        d.minutes = minutes;
        d.key = key;
        s.doors.add(d);
        return s.doors.size() - 1;
    }

    int setBound(int room, int bound) {
        if (noRoom(room)) return UNKNOWN;
        if (bound < 0 || bound > 240) return BAD_VALUE;
        if (room == 0) return NOT_POSSIBLE;
        int was = s.rooms.get(room).bound;
        if (was == bound) return NONE;
        record();
        s.rooms.get(room).bound = bound;
        return was;
    }

    int exclude(int zone, int other, boolean is) {
        if (noZone(zone) || noZone(other)) return UNKNOWN;
        if (zone == other) return BAD_VALUE;
        if (is && s.open[zone] && s.open[other]) return NOT_POSSIBLE;
        if (s.excludes[zone][other] == is) return NONE;
        record();
        s.excludes[zone][other] = is;
        s.excludes[other][zone] = is;
        return Integer.bitCount(zone(zone, 1));
    }

    private boolean barred(int zone) {
        for (int other = 0; other < 6; other++) {
            if (s.excludes[zone][other] && s.open[other]) return true;
        }
        return false;
    }

    int openZone(int zone) {
        if (noZone(zone)) return UNKNOWN;
        if (barred(zone)) return NOT_POSSIBLE;
        if (s.open[zone]) return NONE;
        record();
        s.open[zone] = true;
        return openZones();
    }

    int closeZone(int zone) {
        if (noZone(zone)) return UNKNOWN;
        for (Guard g : s.guards) {
            int room = g.room != null ? g.room : g.target;
            if (s.rooms.get(room).zone == zone) return NOT_POSSIBLE;
        }
        if (!s.open[zone]) return NONE;
        record();
        s.open[zone] = false;
        return openZones();
    }

    // ---- guards and keys

    int addGuard() {
        if (s.guards.size() == 4) return FULL;
        record();
        Guard g = new Guard();
        g.since = minute();
        s.guards.add(g);
        return s.guards.size() - 1;
    }

    int takeKey(int guard, int key) {
        if (noGuard(guard) || noKey(key)) return UNKNOWN;
        if (!stands(guard, 0) || s.holders[key] != null) return NOT_POSSIBLE;
        if (keysOf(guard) == 3) return FULL;
        record();
        s.holders[key] = guard;
        return keysOf(guard);
    }

    int bringKey(int guard, int key) {
        if (noGuard(guard) || noKey(key)) return UNKNOWN;
        if (!stands(guard, 0) || !has(guard, key)) return NOT_POSSIBLE;
        record();
        s.holders[key] = null;
        return keysOf(guard);
    }

    int handKey(int guard, int other, int key) {
        if (noGuard(guard) || noGuard(other) || noKey(key)) return UNKNOWN;
        if (guard == other) return BAD_VALUE;
        Integer room = s.guards.get(guard).room;
        if (room == null || !stands(other, room) || !has(guard, key)) return NOT_POSSIBLE;
        if (keysOf(other) == 3) return FULL;
        record();
        s.holders[key] = other;
        return keysOf(other);
    }

    int go(int guard, int room, int stay) {
        if (noGuard(guard) || noRoom(room)) return UNKNOWN;
        if (stay < 0 || stay > 99) return BAD_VALUE;
        if (s.guards.get(guard).orders.size() == 12) return FULL;
        record();
        s.guards.get(guard).orders.add(new int[] {room, stay});
        return s.guards.get(guard).orders.size();
    }

    int stop(int guard) {
        if (noGuard(guard)) return UNKNOWN;
        Guard g = s.guards.get(guard);
        if (g.orders.isEmpty() && g.stay == 0) return NONE;
        record();
        int dropped = g.orders.size();
        g.orders.clear();
        g.stay = 0;
        return dropped;
    }

    // ---- works and alarms

    int addWork(int kind, int room, int limit) {
        if (noRoom(room) || room == 0) return UNKNOWN;
        if (kind < 0 || kind > 2 || limit < 0 || limit > 99) return BAD_VALUE;
        if (s.works.size() == 10) return FULL;
        record();
        Work w = new Work();
        w.kind = kind;
        w.room = room;
        w.limit = limit;
        s.works.add(w);
        return s.works.size() - 1;
    }

    int moveWork(int work, int room) {
        if (noWork(work) || noRoom(room) || room == 0) return UNKNOWN;
        Work w = s.works.get(work);
        Door d = doorBetween(w.room, room);
        if (w.gone || room(w.room, 6) == 0 || d == null) return NOT_POSSIBLE;
        record();
        w.room = room;
        return d.minutes;
    }

    int takeAway(int work) {
        if (noWork(work)) return UNKNOWN;
        Work w = s.works.get(work);
        if (w.gone) return NONE;
        record();
        w.gone = true;
        return w.troubled ? 1 : 0;
    }

    int clearAlarm(int alarm, int guard) {
        if (noAlarm(alarm) || noGuard(guard)) return UNKNOWN;
        Alarm a = s.alarms.get(alarm);
        if (!stands(guard, a.room)) return NOT_POSSIBLE;
        if (a.clearer != null) return NONE;
        record();
        a.clearer = guard;
        a.cleared = minute();
        return minute() - a.minute;
    }

    // ---- time

    int pass(int minutes) {
        if (minutes < 1 || minutes > 60) return BAD_VALUE;
        if (minute() + minutes > 720) return NOT_POSSIBLE;
        record();
        return advance(minutes);
    }

    private int advance(int minutes) {
        int before = s.alarms.size();
        for (int i = 0; i < minutes; i++) {
            setOff();
            List<Guard> walkers = new ArrayList<>();
            boolean[] watched = new boolean[s.rooms.size()];
            for (Guard g : s.guards) {
                if (g.room != null) {
                    watched[g.room] = true;
                } else {
                    walkers.add(g);
                }
            }
            int present = minute();
            s.watched.add(watched);
            for (Guard g : walkers) {
                walkOn(g, present);
            }
            for (int room = 0; room < s.rooms.size(); room++) {
                int bound = s.rooms.get(room).bound;
                if (bound != 0 && inARow(room, false) == bound + 1) alarm(1, room, present, null);
            }
            for (Work w : s.works) {
                if (!w.gone) lookAt(w, present);
            }
        }
        return s.alarms.size() - before;
    }

    private void setOff() {
        for (int guard = 0; guard < s.guards.size(); guard++) {
            Guard g = s.guards.get(guard);
            if (g.room == null) continue;
            if (g.stay > 0) {
                g.stay--;
                continue;
            }
            if (g.orders.isEmpty()) continue;
            int[] order = g.orders.remove(0);
            Door d = doorBetween(g.room, order[0]);
            if (d == null || d.key != -1 && !has(guard, d.key)) {
                g.orders.clear();
                g.halts++;
                continue;
            }
            s.stays.add(new int[] {guard, g.room, g.since, minute()});
            d.uses++;
            g.room = null;
            g.target = order[0];
            g.walk = d.minutes;
            g.stayAhead = order[1];
        }
    }

    private void walkOn(Guard g, int present) {
        g.walk--;
        if (g.walk > 0) return;
        g.room = g.target;
        g.target = null;
        g.stay = g.stayAhead;
        g.since = present + 1;
        g.arrivals++;
        int zone = s.rooms.get(g.room).zone;
        if (zone != NONE && !s.open[zone]) alarm(0, g.room, present, null);
    }

    private void lookAt(Work w, int present) {
        boolean troubled;
        if (w.kind == 0) {
            troubled = s.open[s.rooms.get(w.room).zone] && !wasWatched(w.room, present);
        } else {
            troubled = inARow(w.room, w.kind == 1) > w.limit;
        }
        if (troubled && !w.troubled) alarm(2, w.room, present, w);
        w.troubled = troubled;
    }

    private void alarm(int cause, int room, int minute, Work work) {
        Alarm a = new Alarm();
        a.cause = cause;
        a.room = room;
        a.minute = minute;
        s.alarms.add(a);
        if (work != null) work.alarms++;
    }

    int nextNight() {
        for (Integer holder : s.holders) {
            if (holder != null) return NOT_POSSIBLE;
        }
        record();
        State next = new State();
        next.rooms = s.rooms;
        for (Room r : next.rooms) {
            r.added = 0;
        }
        next.doors = s.doors;
        next.excludes = s.excludes;
        for (int guard = 0; guard < s.guards.size(); guard++) {
            next.guards.add(new Guard());
        }
        next.nights = s.nights + 1;
        s = next;
        return s.nights;
    }

    // ---- texts

    int type(char character) {
        if (text.length() == 60) return FULL;
        text.append(character);
        return text.length();
    }

    int clearText() {
        int length = text.length();
        text.setLength(0);
        return length;
    }

    private static final String NUMBER = "(?:0|[1-9][0-9]?)";
    private static final String ORDER = NUMBER + "(?:\\+" + NUMBER + ")?";
    private static final Pattern ORDERS = Pattern.compile(ORDER + "(?:," + ORDER + ")*");

    private int fault() {
        for (int end = 1; end <= text.length(); end++) {
            Matcher m = ORDERS.matcher(text.substring(0, end));
            if (!m.matches() && !m.hitEnd()) return end - 1;
        }
        return ORDERS.matcher(text).matches() ? NONE : text.length();
    }

    int readOrders(int guard) {
        if (noGuard(guard)) return UNKNOWN;
        int fault = fault();
        if (fault != NONE) return -100 - fault;
        List<int[]> orders = new ArrayList<>();
        for (String part : text.toString().split(",")) {
            String[] numbers = part.split("\\+");
            int stay = numbers.length == 2 ? Integer.parseInt(numbers[1]) : 0;
            orders.add(new int[] {Integer.parseInt(numbers[0]), stay});
        }
        for (int[] order : orders) {
            if (noRoom(order[0])) return UNKNOWN;
        }
        if (s.guards.get(guard).orders.size() + orders.size() > 12) return FULL;
        record();
        s.guards.get(guard).orders.addAll(orders);
        return s.guards.get(guard).orders.size();
    }

    // ---- history

    int undo() {
        if (history.isEmpty()) return NONE;
        s = history.removeLast();
        return history.size();
    }

    int keep() {
        snapshot = s.copy();
        return minute();
    }

    int restore() {
        if (snapshot == null) return NONE;
        record();
        s = snapshot.copy();
        return minute();
    }

    // ---- what is told

    private static int orNone(Integer value) {
        return value == null ? NONE : value;
    }

    int room(int room, int what) {
        if (noRoom(room)) return UNKNOWN;
        Room r = s.rooms.get(room);
        int n = 0;
        switch (what) {
            case 0: return r.zone;
            case 1: return r.bound;
            case 2: return inARow(room, true);
            case 3: return inARow(room, false);
            case 4: return gapWithin(room, r.added, minute());
            case 5:
                for (int m = 0; m < minute(); m++) n += wasWatched(room, m) ? 1 : 0;
                return n;
            case 6:
                for (int g = 0; g < s.guards.size(); g++) n += stands(g, room) ? 1 : 0;
                return n;
            case 7:
                for (Work w : s.works) n += w.room == room && !w.gone ? 1 : 0;
                return n;
            case 8:
                for (Alarm a : s.alarms.subList(0, notedAlarms())) n += a.room == room && a.clearer == null ? 1 : 0;
                return n;
            default: return BAD_VALUE;
        }
    }

    int door(int door, int what) {
        if (door < 0 || door >= s.doors.size()) return UNKNOWN;
        Door d = s.doors.get(door);
        switch (what) {
            case 0: return d.one;
            case 1: return d.other;
            case 2: return d.minutes;
            case 3: return d.key == -1 ? NONE : d.key;
            case 4: return d.uses;
            default: return BAD_VALUE;
        }
    }

    int zone(int zone, int what) {
        if (noZone(zone)) return UNKNOWN;
        int n = 0;
        switch (what) {
            case 0: return s.open[zone] ? 1 : 0;
            case 1:
                for (int other = 0; other < 6; other++) n += s.excludes[zone][other] ? 1 << other : 0;
                return n;
            case 2:
                for (Room r : s.rooms) n += r.zone == zone ? 1 : 0;
                return n;
            case 3:
                for (Guard g : s.guards) n += g.room != null && s.rooms.get(g.room).zone == zone ? 1 : 0;
                return n;
            case 4: return s.open[zone] || barred(zone) ? 0 : 1;
            default: return BAD_VALUE;
        }
    }

    int guard(int guard, int what) {
        if (noGuard(guard)) return UNKNOWN;
        Guard g = s.guards.get(guard);
        int n = 0;
        switch (what) {
            case 0: return orNone(g.room);
            case 1: return orNone(g.target);
            case 2: return g.room != null ? NONE : g.walk;
            case 3: return g.stay;
            case 4: return g.orders.size();
            case 5:
                for (int key = 0; key < 8; key++) n += has(guard, key) ? 1 << key : 0;
                return n;
            case 6: return g.halts;
            case 7: return g.arrivals;
            default: return BAD_VALUE;
        }
    }

    int orderAt(int guard, int place) {
        if (noGuard(guard)) return UNKNOWN;
        if (place < 0) return BAD_VALUE;
        List<int[]> orders = s.guards.get(guard).orders;
        return place >= orders.size() ? NONE : 100 * orders.get(place)[0] + orders.get(place)[1];
    }

    int holder(int key) {
        return noKey(key) ? UNKNOWN : orNone(s.holders[key]);
    }

    int work(int work, int what) {
        if (noWork(work)) return UNKNOWN;
        Work w = s.works.get(work);
        switch (what) {
            case 0: return w.kind;
            case 1: return w.room;
            case 2: return w.limit;
            case 3: return w.gone ? 2 : w.troubled ? 1 : 0;
            case 4: return w.alarms;
            default: return BAD_VALUE;
        }
    }

    int alarm(int alarm, int what) {
        if (noAlarm(alarm)) return UNKNOWN;
        Alarm a = s.alarms.get(alarm);
        switch (what) {
            case 0: return a.cause;
            case 1: return a.room;
            case 2: return a.minute;
            case 3: return orNone(a.clearer);
            case 4: return orNone(a.cleared);
            default: return BAD_VALUE;
        }
    }

    int stay(int back, int what) {
        if (back < 0 || what < 0 || what > 3) return BAD_VALUE;
        List<int[]> ended = new ArrayList<>(s.stays);
        ended.sort((a, b) -> a[3] != b[3] ? b[3] - a[3] : b[0] - a[0]);
        return back >= ended.size() ? NONE : ended.get(back)[what];
    }

    int gap(int room, int from, int until) {
        if (noRoom(room)) return UNKNOWN;
        if (from < 0 || until < from || until > minute()) return BAD_VALUE;
        return gapWithin(room, from, until);
    }

    int way(int guard, int room) {
        if (noGuard(guard) || noRoom(room)) return UNKNOWN;
        Guard g = s.guards.get(guard);
        // the rooms by the minutes at which they can be reached, each settled at its first turn
        TreeMap<Integer, List<Integer>> ahead = new TreeMap<>();
        boolean[] settled = new boolean[12];
        ahead.computeIfAbsent(g.room != null ? 0 : g.walk, k -> new ArrayList<>()).add(g.room != null ? g.room : g.target);
        while (!ahead.isEmpty()) {
            int minutes = ahead.firstKey();
            for (int here : ahead.remove(minutes)) {
                if (here == room) return minutes;
                if (settled[here]) continue;
                settled[here] = true;
                for (Door d : s.doors) {
                    if (d.one != here && d.other != here || d.key != -1 && !has(guard, d.key)) continue;
                    int there = d.one == here ? d.other : d.one;
                    ahead.computeIfAbsent(minutes + d.minutes, k -> new ArrayList<>()).add(there);
                }
            }
        }
        return NONE;
    }

    int firstDue() {
        int best = NONE;
        int fewest = Integer.MAX_VALUE;
        for (int room = s.rooms.size() - 1; room > 0; room--) {
            int bound = s.rooms.get(room).bound;
            int left = bound + 1 - inARow(room, false);
            if (bound > 0 && left > 0 && left <= fewest) {
                best = room;
                fewest = left;
            }
        }
        return best;
    }

    int alarmsIn(int minutes) {
        if (minutes < 1 || minutes > 60) return BAD_VALUE;
        if (minute() + minutes > 720) return NOT_POSSIBLE;
        State present = s;
        s = s.copy();
        int alarms = advance(minutes);
        s = present;
        return alarms;
    }

    int count(int what) {
        int n = 0;
        switch (what) {
            case 0: return minute();
            case 1: return s.nights;
            case 2: return s.rooms.size();
            case 3: return s.doors.size();
            case 4: return s.guards.size();
            case 5: return s.works.size();
            case 6:
                for (Work w : s.works) n += w.troubled && !w.gone ? 1 : 0;
                return n;
            case 7: return notedAlarms();
            case 8:
                for (Alarm a : s.alarms.subList(0, notedAlarms())) n += a.clearer == null ? 1 : 0;
                return n;
            case 9: return s.alarms.size() - notedAlarms();
            case 10: return openZones();
            case 11:
                for (Integer holder : s.holders) n += holder != null ? 1 : 0;
                return n;
            case 12: return s.stays.size();
            case 13:
                for (Guard g : s.guards) n += g.halts;
                return n;
            case 14: return history.size();
            case 15: return text.length();
            default: return BAD_VALUE;
        }
    }
}
