import java.util.ArrayList;
import java.util.List;
import java.util.NoSuchElementException;

/**
 * Tells whether a call has changed a house: one twin has had the call and one has not, and both are asked everything
 * that can be asked. Each group of questions has twins of its own, so that no object has more than 512 calls.
 */
final class Twins {
    interface Scene {
        void furnish(GrooveHouse x);
    }

    interface Call {
        long on(GrooveHouse x);
    }

    private interface Questions {
        void ask(GrooveHouse x, List<Long> answers);
    }

    /** What a call that throws NoSuchElementException is said to answer here; no call answers it. */
    static final long THROWS = Long.MIN_VALUE;

    private static final Questions[] ALL = {
        Twins::askCounts, Twins::askTrials, Twins::askTruths, Twins::askRuns, Twins::askGuesses, Twins::askSheets,
        Twins::askTape,
    };

    private Twins() {
    }

    static GrooveHouse house(Scene scene) {
        GrooveHouse x = new GrooveHouse();
        scene.furnish(x);
        return x;
    }

    static long answer(GrooveHouse x, Call call) {
        try {
            return call.on(x);
        } catch (NoSuchElementException e) {
            return THROWS;
        }
    }

    /** Whether a house of this scene is the same behind the call as before. */
    static boolean changesNothing(Scene scene, Call call) {
        for (Questions questions : ALL) {
            GrooveHouse called = house(scene);
            answer(called, call);
            List<Long> behind = new ArrayList<>();
            questions.ask(called, behind);
            List<Long> before = new ArrayList<>();
            questions.ask(house(scene), before);
            if (!behind.equals(before)) {
                return false;
            }
        }
        return true;
    }

    private static void askCounts(GrooveHouse x, List<Long> answers) {
        for (int what = 0; what <= 8; what++) {
            answers.add((long) x.count(what));
        }
        answers.add((long) x.left());
    }

    private static void askTrials(GrooveHouse x, List<Long> answers) {
        for (int trial = 0; trial <= 30; trial++) {
            for (int what = 0; what <= 7; what++) {
                int one = trial;
                int of = what;
                answers.add(answer(x, y -> y.told(one, of)));
            }
        }
    }

    private static void askTruths(GrooveHouse x, List<Long> answers) {
        for (int law = 0; law < 8; law++) {
            for (int trial = 0; trial < 30; trial++) {
                answers.add((long) x.is(law, trial));
            }
        }
    }

    private static void askRuns(GrooveHouse x, List<Long> answers) {
        int[] places = {10, 11, 100, 101, 12000};
        for (int ball = 0; ball < 8; ball++) {
            for (int beam = 0; beam < 6; beam++) {
                answers.add((long) x.way(0, ball, beam, 2));
            }
            answers.add((long) x.fall(0, ball, 50));
        }
        for (int law = 0; law < 8; law++) {
            answers.add((long) x.way(law, 0, 0, 3));
            answers.add((long) x.speed(law, 1, 1, 5));
            answers.add((long) x.fall(law, 0, 60));
            answers.add((long) x.cup(law, 100, 3));
            answers.add((long) x.rolls(law, 0));
            answers.add((long) x.rolls(law, 1));
        }
        for (int beam = 0; beam < 6; beam++) {
            for (int place : places) {
                answers.add((long) x.click(0, 0, beam, place));
            }
        }
    }

    private static void askGuesses(GrooveHouse x, List<Long> answers) {
        for (int guess = 0; guess < 8; guess++) {
            answers.add((long) x.fits(guess, -1));
            answers.add((long) x.fits(guess, 0));
            for (int what = 0; what < 4; what++) {
                answers.add((long) x.span(guess, what));
            }
            answers.add((long) x.value(guess, 5, 7, 0, 0, 3));
            answers.add((long) x.worlds(guess, 20, 0));
        }
        for (int law = 0; law < 8; law++) {
            for (int what = 0; what < 3; what++) {
                answers.add((long) x.cheapest(law, what));
            }
        }
    }

    private static void askSheets(GrooveHouse x, List<Long> answers) {
        for (int sheet = 0; sheet < 10; sheet++) {
            answers.add((long) x.found(sheet, 0, 0, 0, 1, -1));
            for (int what = 0; what < 3; what++) {
                answers.add((long) x.most(sheet, 0, 0, 0, 1, what));
            }
            answers.add(x.well(sheet, 0, 0, 0, 1, 9, 0));
            answers.add(x.well(sheet, 0, 0, 0, 1, 9, 1));
        }
    }

    /** What the tape holds is seen by its faults, cut shorter and shorter, and before that by the law that it is. */
    private static void askTape(GrooveHouse x, List<Long> answers) {
        int size = x.count(8);
        int law = x.law();
        answers.add((long) law);
        answers.add((long) x.way(law, 0, 0, 1));
        answers.add((long) x.way(law, 0, 0, 2));
        answers.add((long) x.guess());
        for (int n = size; n >= 0; n--) {
            answers.add(x.end(n) ? 1L : 0L);
            answers.add((long) x.fault(0));
            answers.add((long) x.fault(1));
        }
    }
}
