import java.lang.reflect.InvocationTargetException;
import java.lang.reflect.Method;
import java.lang.reflect.Modifier;
import java.util.ArrayList;
import java.util.Comparator;
import java.util.List;
import java.util.NoSuchElementException;
import java.util.Random;

/** Every call with any arguments, in houses that are empty, filled by chance or full: only told may throw. */
public final class ThrowsNothingTest {
    private static final int HOUSES = 60;
    private static final int CALLS = 512;
    private static final int[] ARGUMENTS = {
        Integer.MIN_VALUE, Integer.MIN_VALUE + 1, -1000001, -65536, -101, -2, -1, 0, 1, 2, 3, 5, 6, 7, 8, 9, 10, 11, 12,
        13, 29, 30, 31, 50, 51, 80, 81, 99, 100, 101, 120, 121, 166, 167, 500, 900, 960, 961, 999, 1000, 1001,
        12000, 12001, 46341, 65536, 100000, 100001, 1000000, 1000001, 1 << 30, Integer.MAX_VALUE - 1, Integer.MAX_VALUE,
    };
    private static final String[] LAWS = {
        "g:x*x-v*v/[n-t]", "g:9999*9999;d:9999*9999;q:9999*9999", "g:0-9999*9999;d:0;q:0-n", "g:!(x>5|v<3)&t>0?x/v",
        "g:1;".repeat(29) + "q:t", "g: " + "[[[[[[s]]]]]]*".repeat(8) + "r", "d:t=0?1;d:0;g:t=0?1;g:0", "q:n/[t-3]",
    };
    private static final String[] GUESSES = {
        "y:a*t*t/[b-a]", "y:9999*9999*a-9999*9999*b", "y:t<a?b", "y:0-9999*9999", "y:w/z*s/r", "y:!t=a&!t=b?a*b",
        "y:1;".repeat(29) + "y:2", "y:[a-b]/[a-b]",
    };
    private static int wrong = 0;

    private static int pick(Random random) {
        return ARGUMENTS[random.nextInt(ARGUMENTS.length)];
    }

    private static void fill(GrooveHouse x, Random random) {
        int most = random.nextInt(9);
        for (int i = 0; i < most; i++) {
            x.ball(1 + random.nextInt(50), 1 + random.nextInt(999));
            Texts.law(x, LAWS[random.nextInt(LAWS.length)]);
            Texts.guess(x, GUESSES[random.nextInt(GUESSES.length)]);
            x.beam(10 + random.nextInt(500), 1 + random.nextInt(100), random.nextInt(51));
        }
        int trials = random.nextInt(32);
        for (int i = 0; i < trials; i++) {
            x.trial(random.nextInt(3), random.nextInt(4), random.nextInt(3), 1 + random.nextInt(200), 500, 1, 50);
            x.write(i, random.nextInt(1500));
            x.number(x.sheet(), random.nextInt(100));
            x.number(random.nextInt(3), random.nextInt(100));
        }
    }

    private static void call(GrooveHouse x, Method m, Random random, int house) throws IllegalAccessException {
        Object[] with = new Object[m.getParameterCount()];
        StringBuilder told = new StringBuilder(m.getName());
        for (int i = 0; i < with.length; i++) {
            // Small numbers more often than not, so that a call is not refused for each argument's sake.
            with[i] = random.nextInt(3) > 0 ? random.nextInt(4) : pick(random);
            told.append(' ').append(with[i]);
        }
        try {
            m.invoke(x, with);
        } catch (InvocationTargetException e) {
            if (!m.getName().equals("told") || e.getCause().getClass() != NoSuchElementException.class) {
                wrong++;
                System.out.println("house " + house + ": " + told + " threw " + e.getCause());
            }
        }
    }

    public static void main(String[] args) throws IllegalAccessException {
        List<Method> face = new ArrayList<>();
        for (Method m : GrooveHouse.class.getDeclaredMethods()) {
            if (Modifier.isPublic(m.getModifiers())) {
                face.add(m);
            }
        }
        face.sort(Comparator.comparing(Method::getName));
        for (int house = 0; house < HOUSES; house++) {
            Random random = new Random(house);
            GrooveHouse x = new GrooveHouse();
            if (house > 0) {
                fill(x, random);
            }
            for (int i = 0; i < CALLS; i++) {
                call(x, face.get(i % face.size()), random, house);
            }
        }
        System.out.println(wrong == 0 ? "nothing throws but told" : wrong + " calls threw");
        if (wrong != 0) {
            System.exit(1);
        }
    }
}
