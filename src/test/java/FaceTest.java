import java.lang.management.ManagementFactory;
import java.lang.reflect.Constructor;
import java.lang.reflect.Field;
import java.lang.reflect.Method;
import java.lang.reflect.Modifier;
import java.util.Arrays;
import java.util.List;
import java.util.TreeSet;

/** The public face and nothing more, and how little room the calls take. */
public final class FaceTest {
    private static final Check CHECK = new Check("FaceTest");
    private static final String[] FACE = {
        "int about(int,int)", "int alone(int)", "int amends(int,int)", "int back(int)", "int cabin(int)", "int camp(int)",
        "int camps(int)", "int clear()", "int could(int,int)", "int count(int)", "int free(int,int)", "int grew(int)",
        "int ground(int)", "int keep(int)", "int list(int,int)", "int loss(int)", "int most()", "int place(int,int,int)",
        "int starves(int,int,int)", "int stores(int,int,int,int,int)", "int takers()", "int theft(int,int,int,int,int,int)",
        "int trip(int,int,int)", "int tune(int,int)", "int type(long,int)", "int walk(int,int)", "int watch(int,int,int)",
        "int weigh(int,int)", "int year()", "long trace()"};

    public static void main(String[] args) {
        methods();
        constants();
        members();
        room();
        CHECK.end();
    }

    private static void holds(String what, boolean holds) {
        CHECK.due(what, holds ? 1 : 0, 1);
    }

    private static void methods() {
        TreeSet<String> found = new TreeSet<>();
        for (Method method : OnlyBatteries.class.getDeclaredMethods()) {
            if (Modifier.isPublic(method.getModifiers())) {
                String row = Arrays.toString(method.getParameterTypes()).replaceAll("[\\[\\] ]", "");
                found.add(method.getReturnType() + " " + method.getName() + "(" + row + ")");
                holds(method + " is of the object", !Modifier.isStatic(method.getModifiers()));
            }
        }
        holds("the public methods are " + found, found.equals(new TreeSet<>(List.of(FACE))));
        Constructor<?>[] made = OnlyBatteries.class.getDeclaredConstructors();
        holds("one public constructor", made.length == 1 && Modifier.isPublic(made[0].getModifiers())
                && made[0].getParameterCount() == 0);
        holds("public and final", OnlyBatteries.class.getModifiers() == (Modifier.PUBLIC | Modifier.FINAL));
    }

    private static void constants() {
        CHECK.due("BAD", OnlyBatteries.BAD, -1);
        CHECK.due("STATE", OnlyBatteries.STATE, -2);
        CHECK.due("FULL", OnlyBatteries.FULL, -3);
        CHECK.due("NONE", OnlyBatteries.NONE, -9);
        CHECK.due("NO", OnlyBatteries.NO, -1000000);
    }

    private static void members() {
        TreeSet<String> constants = new TreeSet<>();
        for (Field field : OnlyBatteries.class.getDeclaredFields()) {
            int how = field.getModifiers();
            holds(field + " is private, or a constant", Modifier.isPrivate(how)
                    || how == (Modifier.PUBLIC | Modifier.STATIC | Modifier.FINAL) && field.getType() == int.class);
            holds(field + " is final, if static", !Modifier.isStatic(how) || Modifier.isFinal(how));
            if (Modifier.isPublic(how)) {
                constants.add(field.getName());
            }
        }
        holds("the constants are " + constants, constants.equals(new TreeSet<>(List.of("BAD", "STATE", "FULL", "NONE", "NO"))));
        for (Method method : OnlyBatteries.class.getDeclaredMethods()) {
            int how = method.getModifiers();
            holds(method + " is private or public", Modifier.isPrivate(how) || Modifier.isPublic(how));
        }
        for (Class<?> inner : OnlyBatteries.class.getDeclaredClasses()) {
            holds(inner + " is static", Modifier.isStatic(inner.getModifiers()));
            holds(inner + " has few fields", inner.getDeclaredFields().length <= 24);
        }
        holds("few classes", OnlyBatteries.class.getDeclaredClasses().length <= 11);
    }

    /** A call makes no object: all rows are made by the constructor. */
    private static void room() {
        OnlyBatteries x = Check.of("lake 10;swamp 20;cabin 1;cabin 30;cabin 44;moon 3 5;");
        for (int t = 0; t < 12; t++) {
            x.theft(t % 3, t, t + 9, t, 1, 0);
            x.list(t, t);
        }
        long before = bytesMade();
        long least = bytesMade() - before;
        before = bytesMade();
        for (int i = 0; i < 10; i++) {
            x.type(0x7061746837L, 5);
            x.year();
            x.clear();
            x.camps(3);
            x.takers();
            x.alone(11);
            x.stores(0, 0, 59, 10, 3);
            x.place(3, 5, 0);
            x.amends(9, 1);
            x.weigh(4, 2);
            x.keep(1);
            x.back(1);
        }
        long made = bytesMade() - before - least;
        holds("the calls made " + made + " bytes", made < 4096);

        before = bytesMade();
        new OnlyBatteries();
        made = bytesMade() - before - least;
        holds("a new object takes " + made + " bytes", made < 48000);
    }

    private static long bytesMade() {
        com.sun.management.ThreadMXBean threads = (com.sun.management.ThreadMXBean) ManagementFactory.getThreadMXBean();
        return threads.getThreadAllocatedBytes(Thread.currentThread().getId());
    }
}
