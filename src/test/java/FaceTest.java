import java.lang.reflect.Constructor;
import java.lang.reflect.Field;
import java.lang.reflect.Method;
import java.lang.reflect.Modifier;
import java.util.Arrays;
import java.util.TreeSet;

/** The public face: all that the document lists, nothing else, and no call that throws. */
public final class FaceTest {
    private static final String[] METHODS = {
        "boolean advance(int)", "long hardware()", "boolean key(int, long)", "int seal(int, long, long, long)",
        "long ask(int)", "int reply(int, long, long, long, int)", "boolean tell(int, int, int, int)",
        "long low(int)", "long high(int)", "int update()", "int survivors()", "long hull(boolean)",
        "int stratum()", "long time()", "long bound()", "long grant(int, int, int)",
        "boolean holds(int, int, long, long)", "long expiry(int)", "int holder(int)"};
    private static final String[] FIELDS = {
        "long NOTHING", "int UNKNOWN", "int MALFORMED", "int FORGED", "int DUPLICATE", "int BOGUS", "int HASTY"};

    public static void main(String[] args) throws Exception {
        constants();
        membersAreThoseOfTheDocument();
        noCallThrows();
        Due.end();
    }

    private static void constants() {
        Due.is("NOTHING", MajorityClock.NOTHING, -4611686018427387904L);
        Due.is("UNKNOWN", MajorityClock.UNKNOWN, -1);
        Due.is("MALFORMED", MajorityClock.MALFORMED, -2);
        Due.is("FORGED", MajorityClock.FORGED, -3);
        Due.is("DUPLICATE", MajorityClock.DUPLICATE, -4);
        Due.is("BOGUS", MajorityClock.BOGUS, -5);
        Due.is("HASTY", MajorityClock.HASTY, -6);
    }

    private static String form(Class<?> type, String name, Class<?>[] arguments) {
        String[] names = Arrays.stream(arguments).map(Class::getName).toArray(String[]::new);
        return type.getName() + " " + name + "(" + String.join(", ", names) + ")";
    }

    private static void same(String what, TreeSet<String> got, String[] due) {
        TreeSet<String> want = new TreeSet<>(Arrays.asList(due));
        Due.yes(what + " are " + got + ", not " + want, got.equals(want));
    }

    private static void membersAreThoseOfTheDocument() {
        int kind = MajorityClock.class.getModifiers();
        Due.yes("public and final", Modifier.isPublic(kind) && Modifier.isFinal(kind));
        TreeSet<String> names = new TreeSet<>();
        TreeSet<String> methods = new TreeSet<>();
        TreeSet<String> hidden = new TreeSet<>();
        for (Method method : MajorityClock.class.getDeclaredMethods()) {
            if (Modifier.isPrivate(method.getModifiers())) {
                hidden.add(method.getName());
            } else {
                methods.add(form(method.getReturnType(), method.getName(), method.getParameterTypes()));
                names.add(method.getName());
            }
        }
        same("the methods", methods, METHODS);
        hidden.retainAll(names);
        same("private methods with a public name", hidden, new String[0]);
        TreeSet<String> fields = new TreeSet<>();
        for (Field field : MajorityClock.class.getDeclaredFields()) {
            if (!Modifier.isPrivate(field.getModifiers())) {
                fields.add(field.getType().getName() + " " + field.getName());
            }
        }
        same("the fields", fields, FIELDS);
        TreeSet<String> constructors = new TreeSet<>();
        for (Constructor<?> made : MajorityClock.class.getDeclaredConstructors()) {
            constructors.add(form(void.class, "new", made.getParameterTypes()));
        }
        same("the constructors", constructors, new String[] {"void new(int, int, int)"});
    }

    /** More than 512 calls are made here: what the later ones answer is free, that none throws is not. */
    private static void noCallThrows() throws Exception {
        Object[] ints = {Integer.MIN_VALUE, -1, 0, 5, 6, Integer.MAX_VALUE};
        Object[] longs = {Long.MIN_VALUE, -1L, 0L, 1L << 40, Long.MAX_VALUE};
        Object[] booleans = {false, true};
        for (int round = 0; round < 3; round++) {
            MajorityClock clock = new MajorityClock(6, 1000, 1);
            if (round > 0) {
                Rig.sample(clock, 5, 1L << 40, 1L << 40, 0);
                clock.tell(5, 1, 5, 1000000);
            }
            if (round > 1) {
                clock.update();
                clock.grant(0, 5, 5);
            }
            for (Method method : MajorityClock.class.getMethods()) {
                if (method.getDeclaringClass() == MajorityClock.class) {
                    callWithAll(clock, method, new Object[method.getParameterCount()], 0, ints, longs, booleans);
                }
            }
        }
        Due.yes("no call threw", true);
    }

    private static void callWithAll(MajorityClock clock, Method method, Object[] given, int next,
            Object[] ints, Object[] longs, Object[] booleans) throws Exception {
        if (next == given.length) {
            method.invoke(clock, given);
            return;
        }
        Class<?> type = method.getParameterTypes()[next];
        for (Object value : type == int.class ? ints : type == long.class ? longs : booleans) {
            given[next] = value;
            callWithAll(clock, method, given, next + 1, ints, longs, booleans);
        }
    }
}
