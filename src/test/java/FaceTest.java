import java.lang.reflect.Constructor;
import java.lang.reflect.Field;
import java.lang.reflect.Method;
import java.lang.reflect.Modifier;
import java.util.TreeSet;

/** The public face: just what the document prints, and nothing else that can be seen from outside. */
public final class FaceTest {
    private static final String[] METHODS = {
        "addRoom(int,int)", "addDoor(int,int,int,int)", "setBound(int,int)", "exclude(int,int,boolean)",
        "openZone(int)", "closeZone(int)", "addGuard()", "takeKey(int,int)", "bringKey(int,int)",
        "handKey(int,int,int)", "go(int,int,int)", "stop(int)", "addWork(int,int,int)",
        "moveWork(int,int)", "takeAway(int)", "clearAlarm(int,int)", "pass(int)", "nextNight()",
        "type(char)", "clearText()", "readOrders(int)", "undo()", "keep()", "restore()",
        "room(int,int)", "door(int,int)", "zone(int,int)", "guard(int,int)", "orderAt(int,int)",
        "holder(int)", "work(int,int)", "alarm(int,int)", "stay(int,int)", "gap(int,int,int)",
        "way(int,int)", "firstDue()", "alarmsIn(int)", "count(int)"
    };
    private static final String[] CONSTANTS = {"UNKNOWN", "BAD_VALUE", "FULL", "NOT_POSSIBLE", "NONE"};

    private FaceTest() {
    }

    public static void main(String[] args) {
        Class<?> face = MuseumNights.class;
        Check.holds("the class is public", Modifier.isPublic(face.getModifiers()));
        Check.holds("the class is final", Modifier.isFinal(face.getModifiers()));
        methods(face);
        fields(face);
        for (Constructor<?> made : face.getDeclaredConstructors()) {
            boolean isPublic = Modifier.isPublic(made.getModifiers());
            Check.holds("constructor " + made, isPublic && made.getParameterCount() == 0);
        }
        for (Class<?> inside : face.getDeclaredClasses()) {
            int modifiers = inside.getModifiers();
            Check.holds(inside + " is static", Modifier.isStatic(modifiers));
            Check.holds(inside + " is hidden", !Modifier.isPublic(modifiers) && !Modifier.isProtected(modifiers));
        }
        Check.end();
    }

    private static void methods(Class<?> face) {
        TreeSet<String> due = new TreeSet<>(java.util.List.of(METHODS));
        TreeSet<String> names = new TreeSet<>();
        for (String method : METHODS) {
            names.add(method.substring(0, method.indexOf('(')));
        }
        for (Method method : face.getDeclaredMethods()) {
            StringBuilder sign = new StringBuilder(method.getName()).append('(');
            for (Class<?> type : method.getParameterTypes()) {
                sign.append(sign.charAt(sign.length() - 1) == '(' ? "" : ",").append(type);
            }
            sign.append(')');
            if (Modifier.isPublic(method.getModifiers())) {
                Check.holds("method " + sign, due.remove(sign.toString()));
                Check.holds(sign + " answers an int", method.getReturnType() == int.class);
                Check.holds(sign + " is of the object", !Modifier.isStatic(method.getModifiers()));
                Check.holds(sign + " names no exception", method.getExceptionTypes().length == 0);
            } else {
                Check.holds(sign + " is private", Modifier.isPrivate(method.getModifiers()));
                Check.holds(sign + " has a name of its own", !names.contains(method.getName()));
            }
        }
        Check.due("methods that are missing: " + due, due.size(), 0);
    }

    private static void fields(Class<?> face) {
        TreeSet<String> due = new TreeSet<>(java.util.List.of(CONSTANTS));
        for (Field field : face.getDeclaredFields()) {
            int modifiers = field.getModifiers();
            if (Modifier.isPublic(modifiers)) {
                Check.holds("constant " + field, due.remove(field.getName()));
                Check.holds(field + " is an int", field.getType() == int.class);
            } else {
                Check.holds(field + " is private", Modifier.isPrivate(modifiers));
            }
            Check.holds(field + " is no static state", !Modifier.isStatic(modifiers) || Modifier.isFinal(modifiers));
        }
        Check.due("constants that are missing: " + due, due.size(), 0);
    }
}
