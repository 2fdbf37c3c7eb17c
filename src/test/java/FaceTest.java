import java.lang.management.ManagementFactory;
import java.lang.reflect.Constructor;
import java.lang.reflect.Field;
import java.lang.reflect.Method;
import java.lang.reflect.Modifier;
import java.util.Arrays;
import java.util.Set;
import java.util.TreeSet;

/** The public face of the document and no more, and calls that make no objects. */
public final class FaceTest {
    private static final String[] CALLS = {
        "smithy(int,int)", "walk(int)", "buy(int)", "patch(int)", "hide(int)", "collect(int)", "end(int)", "set(int,int)",
        "smithyOf(int,int)", "why(int,int)", "mend(int,int,int)", "coldIn(int)", "next()", "round(int,int)", "mean()",
        "count(int)", "undo()", "type(int)", "clearText()", "fault(int)", "play()"};
    private static final String[] CONSTANTS = {"INVALID_ARGUMENT", "NOT_POSSIBLE", "LIMIT_REACHED", "NOT_FOUND"};

    private static int wrong = 0;

    private static void expect(boolean so, String what) {
        if (!so) {
            wrong++;
            System.out.println("not so: " + what);
        }
    }

    public static void main(String[] args) throws IllegalAccessException {
        face();
        classesInside();
        madeByCalls();
        if (wrong != 0) {
            System.exit(1);
        }
    }

    private static void face() throws IllegalAccessException {
        Class<?> type = BellowsRound.class;
        expect(type.getModifiers() == (Modifier.PUBLIC | Modifier.FINAL), "the class is public and final");
        expect(type.getSuperclass() == Object.class && type.getInterfaces().length == 0, "the class extends nothing");
        Constructor<?>[] constructors = type.getDeclaredConstructors();
        expect(constructors.length == 1 && constructors[0].getParameterCount() == 0
                && Modifier.isPublic(constructors[0].getModifiers()), "one public constructor without parameters");
        Set<String> constants = new TreeSet<>();
        for (Field field : type.getDeclaredFields()) {
            if (!Modifier.isPrivate(field.getModifiers())) {
                constants.add(field.getName());
                expect(field.getModifiers() == (Modifier.PUBLIC | Modifier.STATIC | Modifier.FINAL)
                        && field.getType() == int.class, field + " is a public constant");
            }
            expect(!Modifier.isStatic(field.getModifiers()) || Modifier.isFinal(field.getModifiers()), field + " is final");
        }
        expect(constants.equals(new TreeSet<>(Arrays.asList(CONSTANTS))), "the constants are the document's: " + constants);
        methods(type);
    }

    private static void methods(Class<?> type) {
        Set<String> calls = new TreeSet<>();
        Set<String> names = new TreeSet<>();
        for (Method method : type.getDeclaredMethods()) {
            if (!Modifier.isPrivate(method.getModifiers())) {
                expect(method.getModifiers() == Modifier.PUBLIC && method.getReturnType() == int.class, method + " is a call");
                calls.add(method.getName() + parameters(method));
                names.add(method.getName());
            }
        }
        expect(calls.equals(new TreeSet<>(Arrays.asList(CALLS))), "the calls are the document's: " + calls);
        for (Method method : type.getDeclaredMethods()) {
            expect(!Modifier.isPrivate(method.getModifiers()) || !names.contains(method.getName()),
                    method + " bears no public name");
        }
    }

    private static String parameters(Method method) {
        StringBuilder text = new StringBuilder("(");
        for (Class<?> parameter : method.getParameterTypes()) {
            text.append(text.length() > 1 ? "," : "").append(parameter.getName());
        }
        return text.append(")").toString();
    }

    private static void classesInside() {
        for (Class<?> inside : BellowsRound.class.getDeclaredClasses()) {
            expect(Modifier.isStatic(inside.getModifiers()), inside + " is static");
            expect(!Modifier.isPublic(inside.getModifiers()) && !Modifier.isProtected(inside.getModifiers()),
                    inside + " is private or package-visible");
            for (Field field : inside.getDeclaredFields()) {
                expect(!Modifier.isStatic(field.getModifiers()), field + " is not static");
            }
        }
    }

    /** All calls of a run live in one room: what a run makes, its constructor makes. */
    private static void madeByCalls() {
        com.sun.management.ThreadMXBean threads =
                (com.sun.management.ThreadMXBean) ManagementFactory.getThreadMXBean();
        BellowsRound x = new BellowsRound();
        everyCall(x);
        BellowsRound y = new BellowsRound();
        long before = threads.getCurrentThreadAllocatedBytes();
        for (int i = 0; i < 16; i++) {
            everyCall(y);
        }
        long made = threads.getCurrentThreadAllocatedBytes() - before;
        // Some room for what the machine itself and the measuring make.
        expect(made < 16 * 1024, "400 calls make nothing, but they made " + made + " bytes");
    }

    private static void everyCall(BellowsRound x) {
        x.smithy(0, 9);
        x.walk(0);
        x.buy(30);
        x.end(3);
        x.patch(0);
        x.hide(0);
        x.collect(0);
        x.set(0, 40);
        x.smithyOf(0, 6);
        x.why(0, 1);
        x.mend(0, 1, 2);
        x.coldIn(0);
        x.next();
        x.round(1, 2);
        x.mean();
        x.count(9);
        x.undo();
        x.clearText();
        x.type('d');
        x.type('9');
        x.type(';');
        x.fault(2);
        x.play();
    }
}
