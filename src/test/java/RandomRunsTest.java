import java.lang.reflect.InvocationTargetException;
import java.lang.reflect.Method;
import java.util.ArrayList;
import java.util.Arrays;
import java.util.HashMap;
import java.util.List;
import java.util.Map;

/**
 * Runs of calls drawn by a fixed rule, each made of PlainMuseum and of the program: every answer, and now
 * and then all that is told, must be the same. Wrong arguments are drawn, too. No object is used for more
 * calls than the document allows: for what is told the run is made again with new objects.
 */
public final class RandomRunsTest {
    private static final int RUNS = 500;
    private static final int CALLS = 512;
    private static final int PART = 200;
    private static final int STEPS_BETWEEN_LOOKS = 40;
    private static final int[] ODD = {
        -1, -2, -5, -6, 12, 13, 20, 40, 61, 100, 241, 721, Integer.MAX_VALUE, Integer.MIN_VALUE
    };
    private static final Map<String, Method> PROGRAM = methods(MuseumNights.class);
    private static final Map<String, Method> PLAIN = methods(PlainMuseum.class);

    /** A call with the answer that PlainMuseum gave. */
    private record Step(String method, Object[] arguments, int due) {
        int on(MuseumNights x) {
            return RandomRunsTest.call(PROGRAM.get(method), x, arguments);
        }

        void check(String name, MuseumNights x) {
            Check.due(name + method + Arrays.toString(arguments), on(x), due);
        }
    }

    private final int run;
    private final PlainMuseum y = new PlainMuseum();
    private final List<Step> steps = new ArrayList<>();
    private final List<Step> questions = new ArrayList<>();
    private long seed;

    private RandomRunsTest(int run) {
        this.run = run;
        this.seed = 7919L * run + 17;
    }

    public static void main(String[] args) {
        for (int run = 0; run < RUNS; run++) {
            new RandomRunsTest(run).go();
        }
        Check.end();
    }

    private static Map<String, Method> methods(Class<?> type) {
        Map<String, Method> methods = new HashMap<>();
        for (Method method : type.getDeclaredMethods()) {
            methods.put(method.getName(), method);
        }
        return methods;
    }

    private static int call(Method method, Object object, Object[] arguments) {
        try {
            return (int) method.invoke(object, arguments);
        } catch (IllegalAccessException | InvocationTargetException failed) {
            throw new IllegalStateException(method + Arrays.toString(arguments), failed);
        }
    }

    private void go() {
        build();
        int nextLook = 0;
        while (steps.size() < CALLS) {
            drawCall();
            if (steps.size() >= nextLook && steps.size() <= CALLS - PART) {
                compareAll();
                nextLook = steps.size() + STEPS_BETWEEN_LOOKS;
            }
        }
        MuseumNights x = new MuseumNights();
        for (int number = 0; number < CALLS; number++) {
            steps.get(number).check("run " + run + ", call " + number + ": ", x);
        }
    }

    private Step dueStep(String method, Object[] arguments) {
        return new Step(method, arguments, call(PLAIN.get(method), y, arguments));
    }

    /** One more call of the run. */
    private void step(String method, Object... arguments) {
        steps.add(dueStep(method, arguments));
    }

    /** A question that is no call of the run: it is put to a new object behind the run's calls. */
    private void ask(String method, Object... arguments) {
        questions.add(dueStep(method, arguments));
        if (questions.size() == PART) {
            putQuestions();
        }
    }

    private void putQuestions() {
        MuseumNights x = new MuseumNights();
        for (Step step : steps) {
            step.on(x);
        }
        for (Step question : questions) {
            question.check("run " + run + ", behind " + steps.size() + " calls: ", x);
        }
        questions.clear();
    }

    /** A number from 0 up to one below the bound, drawn by a fixed rule. */
    private int below(int bound) {
        seed = seed * 6364136223846793005L + 1442695040888963407L;
        return (int) ((seed >>> 33) % bound);
    }

    /** Mostly a number below the bound, sometimes an odd one. */
    private int mostly(int bound) {
        return below(16) == 0 ? ODD[below(ODD.length)] : below(bound);
    }

    private void build() {
        int rooms = 2 + below(10);
        for (int i = 0; i < rooms; i++) {
            int zone = below(6);
            int bound = below(3) == 0 ? 0 : below(30);
            step("addRoom", zone, bound);
        }
        int doors = rooms + below(8);
        for (int i = 0; i < doors; i++) {
            int room = i < rooms ? i + 1 : below(rooms + 1);
            int other = i < rooms ? below(i + 1) : below(rooms + 1);
            int minutes = below(3) == 0 ? 1 + below(9) : 1;
            int key = below(3) == 0 ? below(8) : -1;
            step("addDoor", room, other, minutes, key);
        }
        int guards = 1 + below(4);
        for (int i = 0; i < guards; i++) {
            step("addGuard");
        }
        for (int i = 0; i < 6; i++) {
            if (below(3) > 0) {
                step("openZone", i);
            }
        }
        if (run % 3 == 0) {
            buildWorks();
        }
    }

    /** So many works that alarms can be lost. */
    private void buildWorks() {
        for (int i = 0; i < 9; i++) {
            step("addWork", below(3), 1 + below(2), below(3));
        }
    }

    private void drawCall() {
        int kind = below(100);
        if (kind < 8) {
            houseCall(below(7));
        } else if (kind < 26) {
            keyCall(below(3));
        } else if (kind < 44) {
            orderCall();
        } else if (kind < 60) {
            workCall(below(6));
        } else if (kind < 82) {
            timeCall();
        } else if (kind < 97) {
            historyCall(below(12));
        } else {
            oddQuestion();
        }
    }

    private void houseCall(int which) {
        int a = mostly(6);
        int b = mostly(12);
        int c = mostly(10);
        int d = mostly(9) - 1;
        boolean is = below(2) == 0;
        switch (which) {
            case 0: step("addRoom", a, b); break;
            case 1: step("addDoor", b, a, c, d); break;
            case 2: step("setBound", b, c); break;
            case 3: step("exclude", a, d, is); break;
            case 4: step("openZone", a); break;
            case 5: step("closeZone", a); break;
            default: step("addGuard"); break;
        }
    }

    private void keyCall(int which) {
        int guard = mostly(4);
        int other = mostly(4);
        int key = mostly(8);
        switch (which) {
            case 0: step("takeKey", guard, key); break;
            case 1: step("bringKey", guard, key); break;
            default:
                if (below(2) == 0) {
                    key = Math.max(0, Integer.numberOfTrailingZeros(Math.max(0, y.guard(guard, 5))));
                }
                step("handKey", guard, other, key);
                break;
        }
    }

    /** The rooms of orders that lead along a way of doors, mostly. */
    private List<Integer> wayOf(int guard) {
        int here = Math.max(y.guard(guard, 0), y.guard(guard, 1));
        int ahead = y.guard(guard, 4);
        if (ahead > 0) {
            here = y.orderAt(guard, ahead - 1) / 100;
        }
        List<Integer> way = new ArrayList<>();
        int length = 1 + below(8);
        for (int i = 0; i < length; i++) {
            here = nextTo(here);
            way.add(here);
        }
        return way;
    }

    private int nextTo(int room) {
        for (int tries = 0; tries < 40; tries++) {
            int door = below(20);
            if (y.door(door, 0) == room && below(2) == 0) {
                return y.door(door, 1);
            }
            if (y.door(door, 1) == room && below(2) == 0) {
                return y.door(door, 0);
            }
        }
        return below(12);
    }

    private String textOf(List<Integer> way) {
        StringBuilder text = new StringBuilder();
        for (int room : way) {
            text.append(text.length() == 0 ? "" : ",").append(room);
            if (below(2) == 0) {
                text.append('+').append(below(4) == 0 ? below(100) : below(6));
            }
        }
        if (below(6) == 0) {
            text.setCharAt(below(text.length()), "0123456789+, ;x\u0000\u0663".charAt(below(17)));
        }
        return text.toString();
    }

    private void orderCall() {
        int guard = mostly(4);
        int which = below(12);
        if (which == 0) {
            step("stop", guard);
        } else if (which == 1) {
            step("go", guard, mostly(12), mostly(100));
        } else if (which < 10) {
            for (int room : wayOf(guard)) {
                step("go", guard, room, below(3) == 0 ? below(9) : 0);
            }
        } else {
            if (below(4) > 0) {
                step("clearText");
            }
            String text = textOf(wayOf(guard));
            for (int i = 0; i < text.length(); i++) {
                step("type", text.charAt(i));
            }
            step("readOrders", guard);
        }
    }

    private void workCall(int which) {
        int a = mostly(10);
        int b = mostly(12);
        int c = below(2) == 0 ? mostly(100) : mostly(6);
        switch (which) {
            case 0: step("addWork", c % 4, b, c); break;
            case 1:
            case 2: step("moveWork", a, b); break;
            case 3:
                if (below(4) == 0) {
                    step("takeAway", a);
                }
                break;
            default:
                int alarm = mostly(Math.max(1, y.count(7)));
                int guard = mostly(4);
                step("clearAlarm", alarm, guard);
                break;
        }
    }

    private void timeCall() {
        int which = below(40);
        if (which == 0 || y.count(0) == 720 && which < 20) {
            for (int key = 0; key < 8 && below(2) == 0; key++) {
                int holder = y.holder(key);
                step("bringKey", holder, key);
            }
            step("nextNight");
        } else {
            int minutes = below(5) == 0 ? mostly(62) : 1 + mostly(8);
            step("alarmsIn", minutes);
            step("pass", minutes);
        }
    }

    private void historyCall(int which) {
        if (which < 5) {
            step("undo");
        } else if (which < 8) {
            step("keep");
        } else if (which < 9) {
            step("restore");
        } else {
            timeCall();
        }
    }

    private void oddQuestion() {
        int a = mostly(12);
        int b = mostly(20);
        int c = mostly(720);
        step("room", a, b);
        step("door", b, a);
        step("zone", a, b);
        step("guard", a, b);
        step("orderAt", a, b);
        step("holder", a);
        step("work", a, b);
        step("alarm", b, a);
        step("stay", b, a);
        step("gap", a, b, c);
        step("gap", a, c, b);
        step("way", a, b);
        step("alarmsIn", b);
        step("count", b);
    }

    private void compareAll() {
        for (int what = -1; what <= 16; what++) {
            ask("count", what);
        }
        for (int what = -1; what <= 9; what++) {
            for (int i = -1; i <= 20; i++) {
                if (i <= 12) {
                    ask("room", i, what);
                    ask("orderAt", what, i);
                }
                if (i <= 10) {
                    ask("work", i, what);
                }
                if (i <= 6) {
                    ask("zone", i, what);
                    ask("guard", i, what);
                }
                ask("door", i, what);
            }
        }
        for (int what = -1; what <= 5; what++) {
            for (int i = -1; i <= 40; i++) {
                ask("alarm", i, what);
            }
            for (int back = -1; back <= 5; back++) {
                ask("stay", back, what);
            }
            int far = below(1 + y.count(12));
            ask("stay", far, what);
        }
        for (int key = -1; key <= 8; key++) {
            ask("holder", key);
        }
        for (int room = -1; room <= 12; room++) {
            for (int guard = -1; guard <= 4; guard++) {
                ask("way", guard, room);
            }
            int minute = y.count(0);
            int from = below(minute + 1);
            int until = from + below(minute + 2 - from);
            ask("gap", room, from, until);
            ask("gap", room, 0, minute);
        }
        ask("firstDue");
        for (int minutes = -1; minutes <= 61; minutes += 10) {
            ask("alarmsIn", minutes);
        }
        putQuestions();
    }
}
