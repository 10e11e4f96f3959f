import java.lang.reflect.Constructor;
import java.lang.reflect.Field;
import java.lang.reflect.Method;
import java.lang.reflect.Modifier;
import java.util.ArrayList;
import java.util.Collections;
import java.util.List;
import java.util.TreeSet;

/** The face of the class is the document's, and nothing else can be seen from outside. */
public final class FaceTest {
    private static final String[] FACE = {
        "int ball(int,int)",
        "int beam(int,int,int)",
        "int feed(int,int,int,int,int)",
        "boolean end(int)",
        "int fault(int)",
        "int law()",
        "int guess()",
        "boolean roll(int,int)",
        "int way(int,int,int,int)",
        "int speed(int,int,int,int)",
        "int click(int,int,int,int)",
        "int fall(int,int,int)",
        "int cup(int,int,int)",
        "int trial(int,int,int,int,int,int,int)",
        "int told(int,int) throws java.util.NoSuchElementException",
        "int is(int,int)",
        "boolean write(int,int)",
        "int value(int,int,int,int,int,int)",
        "int fits(int,int)",
        "int span(int,int)",
        "int left()",
        "int parts(int,int,int,int,int,int)",
        "int worlds(int,int,int)",
        "boolean pin(int,int,int)",
        "int cheapest(int,int)",
        "int odd(int,int,int,int,int,int)",
        "int ear(int,int,int,int,int,int,int)",
        "int sheet()",
        "int number(int,int)",
        "int found(int,int,int,int,int,int)",
        "int most(int,int,int,int,int,int)",
        "long well(int,int,int,int,int,int,int)",
        "int rolls(int,int)",
        "int tower(int,int,int,int,int,int)",
        "int hands(int,int,int,int,int,int)",
        "int drawn(int,int,int,int,int,int)",
        "int count(int)",
    };
    private static int wrong = 0;

    private static void check(boolean holds, String what) {
        if (!holds) {
            wrong++;
            System.out.println("not as due: " + what);
        }
    }

    private static String told(Method m) {
        StringBuilder text = new StringBuilder(m.getReturnType().getName()).append(' ').append(m.getName()).append('(');
        for (int i = 0; i < m.getParameterCount(); i++) {
            text.append(i == 0 ? "" : ",").append(m.getParameterTypes()[i].getName());
        }
        text.append(')');
        for (Class<?> e : m.getExceptionTypes()) {
            text.append(" throws ").append(e.getName());
        }
        return text.toString();
    }

    private static void checkMethods() {
        List<String> seen = new ArrayList<>();
        TreeSet<String> names = new TreeSet<>();
        for (Method m : GrooveHouse.class.getDeclaredMethods()) {
            if (Modifier.isPublic(m.getModifiers())) {
                seen.add(told(m));
                names.add(m.getName());
                check(!Modifier.isStatic(m.getModifiers()), m.getName() + " is no static method");
            }
        }
        for (Method m : GrooveHouse.class.getDeclaredMethods()) {
            if (!Modifier.isPublic(m.getModifiers())) {
                check(Modifier.isPrivate(m.getModifiers()), m.getName() + " is public or private");
                check(!names.contains(m.getName()), m.getName() + " does not bear a public name");
            }
        }
        List<String> due = new ArrayList<>(List.of(FACE));
        Collections.sort(seen);
        Collections.sort(due);
        check(seen.equals(due), "the public methods: " + seen);
    }

    private static void checkFields() {
        int constants = 0;
        for (Field f : GrooveHouse.class.getDeclaredFields()) {
            int m = f.getModifiers();
            if (Modifier.isPublic(m)) {
                constants++;
                check(Modifier.isStatic(m) && Modifier.isFinal(m), f.getName() + " is a constant");
            } else {
                check(Modifier.isPrivate(m), f.getName() + " is private");
            }
            if (Modifier.isStatic(m)) {
                check(Modifier.isFinal(m), f.getName() + " is final");
            }
        }
        check(constants == 2, "two public constants");
        check(GrooveHouse.NONE == -1, "NONE");
        check(GrooveHouse.HIDDEN == -100000000, "HIDDEN");
    }

    private static void checkClasses() {
        int m = GrooveHouse.class.getModifiers();
        check(Modifier.isPublic(m) && Modifier.isFinal(m), "the class is public and final");
        Constructor<?>[] made = GrooveHouse.class.getDeclaredConstructors();
        check(made.length == 1 && Modifier.isPublic(made[0].getModifiers()) && made[0].getParameterCount() == 0,
                "one public constructor without parameters");
        Class<?>[] inside = GrooveHouse.class.getDeclaredClasses();
        check(inside.length <= 11, "at most twelve classes in the file");
        for (Class<?> c : inside) {
            check(Modifier.isPrivate(c.getModifiers()) && Modifier.isStatic(c.getModifiers()),
                    c.getName() + " is private and static");
            check(c.getDeclaredFields().length <= 20, c.getName() + " has at most twenty fields");
        }
    }

    public static void main(String[] args) {
        checkMethods();
        checkFields();
        checkClasses();
        System.out.println(wrong == 0 ? "the face is as due" : wrong + " things are not as due");
        if (wrong != 0) {
            System.exit(1);
        }
    }
}
