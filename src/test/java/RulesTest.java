import java.lang.management.ManagementFactory;
import java.lang.reflect.Constructor;
import java.lang.reflect.Field;
import java.lang.reflect.Method;
import java.lang.reflect.Modifier;
import java.util.Arrays;
import java.util.HashSet;
import java.util.Set;
import java.util.TreeSet;

/** The face that the document tells, the rules of LANGUAGE.md that can be seen here, and the room. */
public final class RulesTest {
    private static final String[] FACE = {
        "int addSection(int,long,int,int)", "int addDistrict(int)", "int addStream(int)",
        "int addPump(int,int)", "int setStream(int,int)", "int switchPump(int,boolean)",
        "int set(int,int)", "int setAlarm(long)", "int setTide(int,long)", "int vote(int,boolean)",
        "int close()", "int open()", "int service(int)", "int pass(int)", "int type(char)",
        "int clearText()", "int readTides(int)", "int undo()", "int keep()", "int restore()",
        "int section(int,int)", "int pump(int,int)", "double level(int)", "long water(int)",
        "double forecast(int)", "int shutIn()", "long tide(int)", "int count(int)"};

    public static void main(String[] args) throws IllegalAccessException {
        methods();
        constants();
        classesInside();
        room();
        Due.end();
    }

    private static void methods() {
        Set<String> found = new TreeSet<>();
        Set<String> publicNames = new HashSet<>();
        Set<String> privateNames = new HashSet<>();
        for (Method method : FloodBarrier.class.getDeclaredMethods()) {
            if (Modifier.isPrivate(method.getModifiers())) {
                privateNames.add(method.getName());
                continue;
            }
            publicNames.add(method.getName());
            String types = Arrays.toString(method.getParameterTypes());
            found.add(method.getReturnType() + " " + method.getName() + "("
                    + types.substring(1, types.length() - 1).replace(" ", "") + ")");
            Due.that(method.getName() + " is public and of the object",
                    method.getModifiers() == Modifier.PUBLIC);
        }
        Due.that("the methods are those of the document: " + found,
                found.equals(new TreeSet<>(Arrays.asList(FACE))));
        privateNames.retainAll(publicNames);
        Due.that("no private method bears the name of a public one", privateNames.isEmpty());
        Constructor<?>[] made = FloodBarrier.class.getDeclaredConstructors();
        Due.is("constructors", made.length, 1);
        Due.that("it is public", Modifier.isPublic(made[0].getModifiers()));
        Due.is("its parameters", made[0].getParameterCount(), 0);
        Due.is("the class is public and final", FloodBarrier.class.getModifiers(),
                Modifier.PUBLIC | Modifier.FINAL);
    }

    private static void constants() throws IllegalAccessException {
        Set<String> found = new TreeSet<>();
        for (Field field : FloodBarrier.class.getDeclaredFields()) {
            int is = field.getModifiers();
            if (Modifier.isPrivate(is)) {
                continue;
            }
            Due.is(field.getName(), is, Modifier.PUBLIC | Modifier.STATIC | Modifier.FINAL);
            found.add(field.getName() + " " + field.getInt(null));
        }
        Set<String> due = new TreeSet<>(Arrays.asList("UNKNOWN -1", "BAD_VALUE -2", "FULL -3",
                "NOT_POSSIBLE -4", "NONE -5"));
        Due.that("the constants are those of the document: " + found, found.equals(due));
    }

    private static void classesInside() {
        Class<?>[] inside = FloodBarrier.class.getDeclaredClasses();
        Due.that("not more than twelve classes", inside.length < 12);
        for (Class<?> one : inside) {
            Due.that(one + " is not public", !Modifier.isPublic(one.getModifiers()));
            Due.that(one + " is static", Modifier.isStatic(one.getModifiers()));
            int fields = 0;
            for (Field field : one.getDeclaredFields()) {
                boolean constant = Modifier.isStatic(field.getModifiers());
                fields += constant ? 0 : 1;
                Due.that(field + ": a static field is final",
                        !constant || Modifier.isFinal(field.getModifiers()));
            }
            Due.that(one + " has at most twenty fields", fields <= 20);
        }
    }

    /** Once its rows are made, no call makes an object: the room of a run is small. */
    private static void room() {
        long made = 0;
        for (int i = 0; i < 100; i++) {
            made += bytesMadeByCalls();
        }
        Due.that("40000 calls make no objects, but made " + made + " bytes", made < 100000);
    }

    private static long bytesMadeByCalls() {
        FloodBarrier x = Due.willing();
        x.addSection(5, Due.bits(1.0), 2, 2);
        x.addPump(1, 1);
        x.addStream(1);
        useAll(x);
        com.sun.management.ThreadMXBean threads =
                (com.sun.management.ThreadMXBean) ManagementFactory.getThreadMXBean();
        long thread = Thread.currentThread().getId();
        long before = threads.getThreadAllocatedBytes(thread);
        for (int i = 0; i < 18; i++) {
            useAll(x);
        }
        return threads.getThreadAllocatedBytes(thread) - before;
    }

    private static void useAll(FloodBarrier x) {
        x.keep();
        x.close();
        x.pass(3);
        x.setTide(4, Due.bits(x.count(0) % 5));
        x.forecast(48);
        x.shutIn();
        x.open();
        x.pass(48);
        x.service(0);
        x.vote(0, false);
        x.vote(0, true);
        x.switchPump(0, true);
        x.setStream(0, 4);
        x.clearText();
        x.type('1');
        x.type('.');
        x.type('0');
        x.readTides(0);
        x.undo();
        x.undo();
        x.undo();
        x.undo();
        x.undo();
        x.pass(1);
        x.restore();
    }
}
