import java.lang.reflect.Array;
import java.lang.reflect.Field;
import java.lang.reflect.Modifier;
import java.util.ArrayList;
import java.util.Collections;
import java.util.IdentityHashMap;
import java.util.List;
import java.util.Set;

/** What a house holds when a run of 512 calls has made all that it can: far less than the room of one run. */
public final class RoomTest {
    private static final int MOST_OBJECTS = 10000;
    private static final int MOST_ELEMENTS = 1000000;
    private static final int MOST_NEW_OBJECTS = 60;
    private static final int MOST_NEW_ELEMENTS = 1500;
    private static int wrong = 0;

    /** Objects and arrays that can be reached, and their fields and elements. */
    private static long[] roomOf(Object house) throws IllegalAccessException {
        Set<Object> seen = Collections.newSetFromMap(new IdentityHashMap<>());
        List<Object> rest = new ArrayList<>();
        rest.add(house);
        long elements = 0;
        while (!rest.isEmpty()) {
            Object next = rest.remove(rest.size() - 1);
            if (next == null || next instanceof String || !seen.add(next)) {
                continue;
            }
            if (next.getClass().isArray()) {
                elements += Array.getLength(next);
                if (!next.getClass().getComponentType().isPrimitive()) {
                    Collections.addAll(rest, (Object[]) next);
                }
                continue;
            }
            for (Field field : next.getClass().getDeclaredFields()) {
                if (!Modifier.isStatic(field.getModifiers())) {
                    elements++;
                    field.setAccessible(true);
                    if (!field.getType().isPrimitive()) {
                        rest.add(field.get(next));
                    }
                }
            }
        }
        return new long[] {seen.size(), elements};
    }

    private static void check(String what, Object house, int objects, int elements) throws IllegalAccessException {
        long[] room = roomOf(house);
        if (room[0] > objects || room[1] > elements) {
            wrong++;
            System.out.println(what + " holds " + room[0] + " objects, " + room[1] + " fields and elements");
        }
    }

    /** Every law, ball and beam that there can be, and every run and fall asked for to its last tick. */
    private static GrooveHouse dearest() {
        GrooveHouse x = new GrooveHouse();
        for (int i = 0; i < 8; i++) {
            x.ball(1 + i, 1 + i);
            x.beam(12000, 1 + i, 0);
            Texts.law(x, "g:1;".repeat(29) + "g:2");
            Texts.guess(x, "y:1;".repeat(29) + "y:2");
        }
        for (int law = 0; law < 8; law++) {
            for (int ball = 0; ball < 8; ball++) {
                for (int beam = 0; beam < 6; beam += 2) {
                    x.drawn(law, ball, beam, beam + 1, 1000, 1);
                }
            }
        }
        for (int i = 0; i < 30; i++) {
            x.trial(0, i % 8, i % 6, 12000, 0, 1, 50);
        }
        x.left();
        for (int i = 0; i < 8; i++) {
            x.fits(i, -1);
            x.worlds(i, 0, 0);
            x.cheapest(i, 0);
        }
        return x;
    }

    public static void main(String[] args) throws IllegalAccessException {
        check("a new house", new GrooveHouse(), MOST_NEW_OBJECTS, MOST_NEW_ELEMENTS);
        check("the dearest house", dearest(), MOST_OBJECTS, MOST_ELEMENTS);
        long[] room = roomOf(dearest());
        if (room[1] < 400000) {
            wrong++;
            System.out.println("the dearest house is not dear: " + room[1]);
        }
        System.out.println(wrong == 0 ? "the house needs little room" : "the house needs too much room");
        if (wrong != 0) {
            System.exit(1);
        }
    }
}
