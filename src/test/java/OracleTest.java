import java.util.NoSuchElementException;
import java.util.Random;

/** Long runs of calls by a fixed seed, good and bad ones mixed, held against the oracle call by call. */
public final class OracleTest {
    private static final int RUNS = 60;
    private static final int CALLS = 512;
    private static final int[] EDGES = {
        Integer.MIN_VALUE, Integer.MAX_VALUE, -2, -1, 0, 1, 2, 30, 31, 50, 51, 99, 100, 101, 999, 1000, 1001,
        12000, 12001, 100000, 100001, 1000000, 1000001, 65536, 1 << 30, 46341, -2147483647,
    };
    private static final String[] LAWS = {
        "g:s-r", "g:s/2;d:5", "g:v>40?0;q:n/7", "d:10-v/50;q:t*t", "g:w/z;d:w/10+1", "q:t<5?3;q:!t=9?8",
        "g:[s-r]*[100-v]/100", "g:x>500&v>3?0-5", "g:t=0|t=5?20;g:0", "g:t;d:t", "d:z>9?20;d:12-z", "g:0;d:0;q:0",
        "g:9999;d:9999;q:9999", "g:x/1000-t*t+x*x",
    };
    private static final String[] GUESSES = {
        "y:a*t*t+b*t", "y:a*s", "y:a*t*[t+1]/2", "y:t<a?b;y:b*t", "y:t>b?a*t", "y:s*t/[a+1]+b", "y:[s-r]*t*[t+1]/2",
        "y:a", "y:b", "y:w*t/[a+1]", "y:a*t", "y:z*t+b-a",
    };
    private static int wrong = 0;

    private final Random random;
    private final GrooveHouse house = new GrooveHouse();
    private final Oracle oracle = new Oracle();
    private final int run;
    private final int[] sizes = new int[10];

    private OracleTest(int run) {
        this.run = run;
        this.random = new Random(run);
    }

    private int upTo(int greatest) {
        return random.nextInt(greatest + 1);
    }

    /** Mostly a number of the span told, now and then an edge or one beside the span. */
    private int pick(int least, int greatest) {
        int sort = random.nextInt(40);
        if (sort == 0) {
            return EDGES[random.nextInt(EDGES.length)];
        }
        if (sort == 1) {
            return random.nextBoolean() ? least - 1 : greatest + 1;
        }
        if (sort == 2) {
            return random.nextBoolean() ? least : greatest;
        }
        return least + random.nextInt(Math.max(greatest - least + 1, 1));
    }

    private int one(int counted) {
        return pick(0, Math.max(house.count(counted) - 1, 0));
    }

    private static void check(int run, String call, long got, long want) {
        if (got != want) {
            wrong++;
            System.out.println("run " + run + ": " + call + " answered " + got + ", the oracle has " + want);
        }
    }

    private void same(String name, long got, long want, int... with) {
        StringBuilder call = new StringBuilder(name).append('(');
        for (int i = 0; i < with.length; i++) {
            call.append(i == 0 ? "" : ", ").append(with[i]);
        }
        check(run, call.append(')').toString(), got, want);
    }

    private String blanks() {
        return random.nextInt(12) == 0 ? "  ".substring(random.nextInt(2)) : "";
    }

    private String atom(String letters, int depth) {
        int sort = random.nextInt(8);
        if (sort == 0 && depth < 8) {
            return blanks() + "[" + sum(letters, depth + 1) + blanks() + "]";
        }
        if (sort < 4) {
            return blanks() + upTo(random.nextInt(4) == 0 ? 9999 : 20);
        }
        return blanks() + letters.charAt(random.nextInt(letters.length()));
    }

    private String chain(String part, String signs, String more) {
        return part + blanks() + signs.charAt(random.nextInt(signs.length())) + more;
    }

    private String term(String letters, int depth) {
        String text = atom(letters, depth);
        return random.nextInt(3) == 0 ? chain(text, "*/", atom(letters, depth)) : text;
    }

    private String sum(String letters, int depth) {
        String text = term(letters, depth);
        return random.nextInt(3) == 0 ? chain(text, "+-", term(letters, depth)) : text;
    }

    private String unit(String letters, int depth) {
        int sort = random.nextInt(6);
        if (sort == 0 && depth < 8) {
            return blanks() + "!" + unit(letters, depth + 1);
        }
        if (sort == 1 && depth < 8) {
            return blanks() + "(" + condition(letters, depth + 1) + blanks() + ")";
        }
        return chain(sum(letters, depth), "=<>", sum(letters, depth));
    }

    private String condition(String letters, int depth) {
        String text = unit(letters, depth);
        return random.nextInt(3) == 0 ? chain(text, "&|", unit(letters, depth)) : text;
    }

    private String madeUp(boolean law) {
        String letters = law ? "txvsrwzn" : "tsrwzab";
        String labels = law ? "gdq" : "y";
        StringBuilder text = new StringBuilder();
        int clauses = 1 + upTo(2);
        for (int i = 0; i < clauses; i++) {
            text.append(i == 0 ? "" : ";").append(blanks()).append(labels.charAt(random.nextInt(labels.length())));
            text.append(blanks()).append(':');
            if (random.nextInt(2) == 0) {
                text.append(condition(letters, 0)).append(blanks()).append('?');
            }
            text.append(sum(letters, 0));
        }
        return text.append(blanks()).toString();
    }

    private String spoilt(String text) {
        StringBuilder other = new StringBuilder(text);
        String signs = "gdqytxvsrwznab0123456789:;?!()[]=<>&|+-*/ ";
        int at = upTo(other.length() - 1);
        char sign = random.nextInt(9) == 0 ? (char) (1 + upTo(254)) : signs.charAt(random.nextInt(signs.length()));
        switch (random.nextInt(4)) {
            case 0: other.insert(at, sign); break;
            case 1: other.setCharAt(at, sign); break;
            case 2: other.deleteCharAt(at); break;
            default: other.setLength(at); break;
        }
        return other.toString();
    }

    private String text(boolean law) {
        String text = madeUp(law);
        if (random.nextInt(2) == 0) {
            text = law ? LAWS[random.nextInt(LAWS.length)] : GUESSES[random.nextInt(GUESSES.length)];
        }
        return random.nextInt(5) == 0 ? spoilt(text) : text;
    }

    private void feedText(String text) {
        for (int at = 0; at < text.length(); at += 20) {
            int[] numbers = new int[5];
            for (int i = 0; i < 20; i++) {
                int next = at + i < text.length() ? text.charAt(at + i) : 0;
                numbers[i / 4] = numbers[i / 4] << 8 | next;
            }
            int a = numbers[0];
            int b = numbers[1];
            int c = numbers[2];
            int d = numbers[3];
            int e = numbers[4];
            same("feed", house.feed(a, b, c, d, e), oracle.feed(a, b, c, d, e), a, b, c, d, e);
        }
    }

    private void tellText() {
        if (random.nextInt(8) != 0) {
            same("end", house.end(0) ? 1 : 0, oracle.end(0) ? 1 : 0, 0);
        }
        boolean law = random.nextBoolean();
        feedText(text(law));
        if (random.nextInt(6) == 0) {
            int n = pick(0, house.count(8));
            same("end", house.end(n) ? 1 : 0, oracle.end(n) ? 1 : 0, n);
        }
        int sort = pick(0, 1);
        same("fault", house.fault(sort), oracle.fault(sort), sort);
        if (law) {
            same("law", house.law(), oracle.law());
        } else {
            same("guess", house.guess(), oracle.guess());
        }
    }

    private void tellThing() {
        switch (random.nextInt(4)) {
            case 0: {
                int size = pick(1, 50);
                int weight = pick(1, 999);
                same("ball", house.ball(size, weight), oracle.ball(size, weight), size, weight);
                break;
            }
            case 1: {
                int length = pick(10, random.nextBoolean() ? 200 : 12000);
                int slope = pick(1, 100);
                int rough = pick(0, 50);
                same("beam", house.beam(length, slope, rough), oracle.beam(length, slope, rough), length, slope, rough);
                break;
            }
            case 2: {
                if (random.nextInt(3) == 0) {
                    same("sheet", house.sheet(), oracle.sheet());
                }
                tellNumber();
                break;
            }
            default:
                tellTrial();
        }
    }

    /** Numbers that one guess by one pair gives are told more often than others, so that something is found. */
    private void tellNumber() {
        int sheet = one(6);
        int own = Math.max(sheet, 0) % 10;
        for (int i = 0; i < 3; i++) {
            int worth = oracle.value(own % 3, 3 * own, own, 0, 0, (sizes[own] + 1) * (1 + own % 3));
            int other = pick(0, random.nextBoolean() ? 100 : 1000000);
            int told = random.nextInt(20) != 0 && worth >= 0 ? worth : other;
            int size = house.number(sheet, told);
            sizes[own] = Math.max(sizes[own], size);
            same("number", size, oracle.number(sheet, told), sheet, told);
        }
    }

    private void tellTrial() {
        int kind = random.nextInt(3) == 0 ? pick(0, 2) : 0;
        int ball = one(0);
        int beam = one(1);
        int what = pick(1, random.nextBoolean() ? 60 : 1200);
        int bucket = pick(0, random.nextBoolean() ? 500 : 100000);
        int cost = pick(1, random.nextBoolean() ? 4 : 99);
        int slack = pick(0, 50);
        same("trial", house.trial(kind, ball, beam, what, bucket, cost, slack),
                oracle.trial(kind, ball, beam, what, bucket, cost, slack), kind, ball, beam, what, bucket, cost, slack);
    }

    private void change() {
        int trial = one(4);
        switch (random.nextInt(4)) {
            case 0: {
                int law = one(2);
                int v = pick(0, 1000);
                same("roll", house.roll(law, v) ? 1 : 0, oracle.roll(law, v) ? 1 : 0, law, v);
                break;
            }
            case 1: {
                int guess = one(3);
                int a = pick(0, 30);
                int b = pick(0, 30);
                same("pin", house.pin(guess, a, b) ? 1 : 0, oracle.pin(guess, a, b) ? 1 : 0, guess, a, b);
                break;
            }
            case 2: {
                int number = random.nextInt(3) == 0 ? -1 : pick(-1, random.nextBoolean() ? 30 : 1000000);
                same("write", house.write(trial, number) ? 1 : 0, oracle.write(trial, number) ? 1 : 0, trial, number);
                break;
            }
            default: {
                int number = oracle.is(upTo(Math.max(oracle.count(2) - 1, 0)), trial);
                same("write", house.write(trial, number) ? 1 : 0, oracle.write(trial, number) ? 1 : 0, trial, number);
            }
        }
    }

    private int ticks() {
        return pick(0, random.nextBoolean() ? 30 : 1000);
    }

    private void askRuns() {
        int law = one(2);
        int ball = one(0);
        int beam = one(1);
        int ticks = ticks();
        int place = pick(1, random.nextBoolean() ? 100 : 12000);
        int what = pick(0, 1);
        int step = pick(1, random.nextBoolean() ? 5 : 170);
        switch (random.nextInt(9)) {
            case 0: same("way", house.way(law, ball, beam, ticks), oracle.way(law, ball, beam, ticks),
                    law, ball, beam, ticks); break;
            case 1: same("speed", house.speed(law, ball, beam, ticks), oracle.speed(law, ball, beam, ticks),
                    law, ball, beam, ticks); break;
            case 2: same("click", house.click(law, ball, beam, place), oracle.click(law, ball, beam, place),
                    law, ball, beam, place); break;
            case 3: same("fall", house.fall(law, ball, place), oracle.fall(law, ball, place), law, ball, place); break;
            case 4: {
                int bucket = pick(0, random.nextBoolean() ? 500 : 100000);
                same("cup", house.cup(law, bucket, ticks), oracle.cup(law, bucket, ticks), law, bucket, ticks);
                break;
            }
            case 5: {
                int k = pick(1, 6);
                int ear = pick(0, 100);
                same("odd", house.odd(law, ball, beam, step, k, ear), oracle.odd(law, ball, beam, step, k, ear),
                        law, ball, beam, step, k, ear);
                break;
            }
            case 6: {
                int i = pick(1, 8);
                int e = pick(0, random.nextBoolean() ? 3 : 100);
                same("ear", house.ear(law, ball, beam, step, i, e, what), oracle.ear(law, ball, beam, step, i, e, what),
                        law, ball, beam, step, i, e, what);
                break;
            }
            case 7: {
                int other = one(1);
                same("drawn", house.drawn(law, ball, beam, other, ticks, what),
                        oracle.drawn(law, ball, beam, other, ticks, what), law, ball, beam, other, ticks, what);
                break;
            }
            default: askTowers(law, ball, place);
        }
    }

    private void askTowers(int law, int ball, int height) {
        int other = one(0);
        if (random.nextBoolean()) {
            int late = pick(0, random.nextBoolean() ? 5 : 1000);
            int later = pick(0, random.nextBoolean() ? 5 : 1000);
            same("tower", house.tower(law, ball, other, height, late, later),
                    oracle.tower(law, ball, other, height, late, later), law, ball, other, height, late, later);
        } else {
            int m = pick(1, 50);
            int what = pick(0, 2);
            same("hands", house.hands(law, ball, other, height, m, what),
                    oracle.hands(law, ball, other, height, m, what), law, ball, other, height, m, what);
        }
    }

    private void askTrials() {
        int law = one(2);
        int trial = one(4);
        int guess = one(3);
        int a = pick(0, 30);
        int b = pick(0, 30);
        switch (random.nextInt(9)) {
            case 0: askTold(trial, pick(0, 7)); break;
            case 1: same("is", house.is(law, trial), oracle.is(law, trial), law, trial); break;
            case 2: {
                int i = random.nextInt(3) == 0 ? -1 : pick(0, random.nextBoolean() ? 5 : 960);
                same("fits", house.fits(guess, i), oracle.fits(guess, i), guess, i);
                break;
            }
            case 3: {
                int what = pick(0, 3);
                same("span", house.span(guess, what), oracle.span(guess, what), guess, what);
                break;
            }
            case 4: same("left", house.left(), oracle.left()); break;
            case 5: same("worlds", house.worlds(guess, a, b), oracle.worlds(guess, a, b), guess, a, b); break;
            case 6: {
                int what = pick(0, 2);
                same("cheapest", house.cheapest(law, what), oracle.cheapest(law, what), law, what);
                break;
            }
            case 7: {
                int what = pick(0, 1);
                same("rolls", house.rolls(law, what), oracle.rolls(law, what), law, what);
                break;
            }
            default: askParts(guess);
        }
    }

    private void askParts(int guess) {
        int other = one(3);
        int ball = one(0);
        int beam = one(1);
        int ticks = ticks();
        int what = pick(0, 1);
        same("parts", house.parts(guess, other, ball, beam, ticks, what),
                oracle.parts(guess, other, ball, beam, ticks, what), guess, other, ball, beam, ticks, what);
    }

    private void askTold(int trial, int what) {
        long got;
        long want;
        try {
            got = house.told(trial, what);
        } catch (NoSuchElementException e) {
            got = Long.MIN_VALUE;
        }
        try {
            want = oracle.told(trial, what);
        } catch (NoSuchElementException e) {
            want = Long.MIN_VALUE;
        }
        same("told", got, want, trial, what);
    }

    private void askSheets() {
        int sheet = one(6);
        boolean fitting = random.nextInt(3) != 0;
        int guess = fitting ? Math.max(sheet, 0) % 3 : one(3);
        int ball = fitting ? 0 : one(0);
        int beam = fitting ? 0 : one(1);
        int step = fitting ? 1 + Math.max(sheet, 0) % 10 % 3 : pick(1, random.nextBoolean() ? 3 : 80);
        switch (random.nextInt(4)) {
            case 0: {
                int tick = ticks();
                int a = pick(0, 30);
                int b = pick(0, 30);
                same("value", house.value(guess, a, b, ball, beam, tick), oracle.value(guess, a, b, ball, beam, tick),
                        guess, a, b, ball, beam, tick);
                break;
            }
            case 1: {
                int i = pick(-1, 3);
                same("found", house.found(sheet, guess, ball, beam, step, i),
                        oracle.found(sheet, guess, ball, beam, step, i), sheet, guess, ball, beam, step, i);
                break;
            }
            case 2: {
                int what = pick(0, 2);
                same("most", house.most(sheet, guess, ball, beam, step, what),
                        oracle.most(sheet, guess, ball, beam, step, what), sheet, guess, ball, beam, step, what);
                break;
            }
            default: {
                int e = pick(0, 9);
                int what = pick(0, 1);
                same("well", house.well(sheet, guess, ball, beam, step, e, what),
                        oracle.well(sheet, guess, ball, beam, step, e, what), sheet, guess, ball, beam, step, e, what);
            }
        }
    }

    private void call() {
        switch (random.nextInt(12)) {
            case 0: tellText(); break;
            case 1: case 2: tellThing(); break;
            case 3: change(); break;
            case 4: case 5: case 6: askRuns(); break;
            case 7: case 8: case 9: askTrials(); break;
            case 10: askSheets(); break;
            default: {
                int what = pick(0, 8);
                same("count", house.count(what), oracle.count(what), what);
            }
        }
    }

    /** Texts are much the richest thing told: many more of them are held against the oracle's reader alone. */
    private void readTexts() {
        for (int i = 0; i < 2000; i++) {
            boolean law = random.nextBoolean();
            String text = text(law);
            text = random.nextInt(3) == 0 ? spoilt(text + " ") : text;
            if (text.length() <= 120) {
                house.end(0);
                oracle.end(0);
                feedText(text);
                int sort = random.nextInt(10) == 0 ? random.nextInt(2) : law ? 0 : 1;
                int due = Oracle.faultOf(text, sort == 0);
                check(run, "fault(" + sort + ") of " + text, house.fault(sort), due);
            }
        }
    }

    public static void main(String[] args) {
        int runs = args.length > 0 ? Integer.parseInt(args[0]) : RUNS;
        for (int run = 0; run < runs; run++) {
            OracleTest test = new OracleTest(run);
            for (int i = 0; i < 7; i++) {
                test.tellThing();
            }
            for (int i = 0; i < CALLS; i++) {
                test.call();
            }
        }
        for (int run = 0; run < 5; run++) {
            new OracleTest(runs + run).readTexts();
        }
        System.out.println(wrong == 0 ? "the oracle has the same answers" : wrong + " answers are not the oracle's");
        if (wrong != 0) {
            System.exit(1);
        }
    }
}
