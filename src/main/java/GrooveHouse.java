import java.util.Arrays;
import java.util.NoSuchElementException;

/** A house with a sloping groove; the document DOC.md says what each call answers. */
public final class GrooveHouse {
    public static final int NONE = -1;
    public static final int HIDDEN = -100000000;

    private static final int MOST_BALLS = 8;
    private static final int MOST_BEAMS = 6;
    private static final int MOST_LAWS = 8;
    private static final int MOST_GUESSES = 8;
    private static final int MOST_TRIALS = 30;
    private static final int MOST_SHEETS = 10;
    private static final int MOST_NUMBERS = 12;
    private static final int MOST_BYTES = 120;
    private static final int MOST_TICKS = 1000;
    private static final int MOST_SPEED = 10000;
    private static final int MOST_GRAINS = 100000;
    private static final int LONGEST = 12000;
    private static final int STEEPEST = 100;
    private static final int MOST_ROLL = 1000;
    private static final int MOST_STRINGS = 6;
    private static final int MOST_STEP = 80;
    private static final int MOST_ERROR = 9;
    private static final int MOST_LATE = 50;
    private static final int MILLION = 1000000;

    private static final int CLICKED = 0;
    private static final int CUPPED = 1;
    private static final int THROWN = 2;

    /** A pair (a, b) is told as OPEN a and b. */
    private static final int OPEN = 31;
    private static final int PAIRS = OPEN * OPEN;

    private static final int LAW_SORT = 0;
    private static final int GUESS_SORT = 1;
    private static final String LAW_LABELS = "gdq";
    private static final String LAW_LETTERS = "txvsrwzn";
    private static final String GUESS_LABELS = "y";
    private static final String GUESS_LETTERS = "tsrwzab";

    private static final int ROLLING = 0;
    private static final int FALLING = 1;
    private static final int FLOWING = 2;
    private static final int GUESSED = 0;
    private static final int USUAL_FALL = 10;
    private static final int USUAL_FLOW = 10;

    /** All letters; the place of a letter here is its place in the reckoner's row. */
    private static final String LETTERS = "txvsrwznab";
    private static final int T = 0;
    private static final int X = 1;
    private static final int V = 2;
    private static final int S = 3;
    private static final int R = 4;
    private static final int W = 5;
    private static final int Z = 6;
    private static final int N = 7;
    private static final int A = 8;
    private static final int B = 9;

    /** A code below LETTER_CODE is a number, one below SIGN_CODE a letter, any other a sign behind what it joins. */
    private static final int LETTER_CODE = 10000;
    private static final int SIGN_CODE = 20000;

    private static final int DEEPEST = 6;
    private static final int MOST_DIGITS = 4;
    /** A clause takes three bytes and the ; before it: 120 bytes hold no more than thirty. */
    private static final int MOST_CLAUSES = 30;

    private final Ball[] balls = new Ball[MOST_BALLS];
    private final Beam[] beams = new Beam[MOST_BEAMS];
    private final Law[] laws = new Law[MOST_LAWS];
    private final Guess[] guesses = new Guess[MOST_GUESSES];
    private final Trial[] trials = new Trial[MOST_TRIALS];
    private final int[][] sheets = new int[MOST_SHEETS][MOST_NUMBERS];
    private final int[] sheetSizes = new int[MOST_SHEETS];
    private int ballCount = 0;
    private int beamCount = 0;
    private int lawCount = 0;
    private int guessCount = 0;
    private int trialCount = 0;
    private int sheetCount = 0;
    private final Reader reader = new Reader();
    private int tapeSize = 0;
    private final Reckoner reckoner = new Reckoner();
    private final Choice choice = new Choice();
    private final long[] rowsBySum = new long[MOST_NUMBERS * MOST_ERROR + 1];
    /** How often something was written: fits that were looked for before the latest writing are stale. */
    private int writings = 0;

    public GrooveHouse() {
    }

    public int ball(int size, int weight) {
        if (ballCount >= MOST_BALLS || !inside(size, 1, 50) || !inside(weight, 1, 999)) {
            return NONE;
        }
        balls[ballCount] = new Ball(ballCount, size, weight);
        ballCount++;
        return ballCount - 1;
    }

    public int beam(int length, int slope, int rough) {
        if (beamCount >= MOST_BEAMS || !inside(length, 10, LONGEST)) {
            return NONE;
        }
        if (!inside(slope, 1, STEEPEST) || !inside(rough, 0, 50)) {
            return NONE;
        }
        beams[beamCount] = new Beam(beamCount, length, slope, rough);
        beamCount++;
        return beamCount - 1;
    }

    public int feed(int a, int b, int c, int d, int e) {
        int more = bytesIn(a) + bytesIn(b) + bytesIn(c) + bytesIn(d) + bytesIn(e);
        if (tapeSize + more > MOST_BYTES) {
            return NONE;
        }
        putBytes(a);
        putBytes(b);
        putBytes(c);
        putBytes(d);
        putBytes(e);
        return tapeSize;
    }

    public boolean end(int n) {
        if (!inside(n, 0, tapeSize)) {
            return false;
        }
        tapeSize = n;
        return true;
    }

    public int fault(int sort) {
        return inside(sort, LAW_SORT, GUESS_SORT) ? reader.faultOf(tapeSize, sort) : -2;
    }

    public int law() {
        if (lawCount >= MOST_LAWS || reader.faultOf(tapeSize, LAW_SORT) != NONE) {
            return NONE;
        }
        laws[lawCount] = new Law(reader.clausesRead());
        lawCount++;
        tapeSize = 0;
        return lawCount - 1;
    }

    public int guess() {
        if (guessCount >= MOST_GUESSES || reader.faultOf(tapeSize, GUESS_SORT) != NONE) {
            return NONE;
        }
        guesses[guessCount] = new Guess(reader.clausesRead());
        guessCount++;
        tapeSize = 0;
        return guessCount - 1;
    }

    public boolean roll(int law, int v) {
        Law by = lawAt(law);
        if (by == null || !inside(v, 0, MOST_ROLL)) {
            return false;
        }
        by.roll = v;
        return true;
    }

    public int way(int law, int ball, int beam, int ticks) {
        Path run = runAt(law, ball, beam);
        return run == null || !inside(ticks, 0, MOST_TICKS) ? NONE : run.wayAfter(ticks);
    }

    public int speed(int law, int ball, int beam, int ticks) {
        Path run = runAt(law, ball, beam);
        return run == null || !inside(ticks, 0, MOST_TICKS) ? NONE : run.speedAfter(ticks);
    }

    public int click(int law, int ball, int beam, int place) {
        Path run = runAt(law, ball, beam);
        Beam on = beamAt(beam);
        if (run == null || on == null || !inside(place, 1, on.length)) {
            return NONE;
        }
        return run.clickAt(place);
    }

    public int fall(int law, int ball, int height) {
        Path drop = dropAt(law, ball);
        return drop == null || !inside(height, 1, LONGEST) ? NONE : drop.clickAt(height);
    }

    public int cup(int law, int bucket, int ticks) {
        Law by = lawAt(law);
        if (by == null || !inside(bucket, 0, MOST_GRAINS) || !inside(ticks, 0, MOST_TICKS)) {
            return NONE;
        }
        return grainsInCup(by, bucket, ticks);
    }

    public int trial(int kind, int ball, int beam, int what, int bucket, int cost, int slack) {
        Ball let = ballAt(ball);
        Beam on = beamAt(beam);
        if (trialCount >= MOST_TRIALS || let == null || on == null || !inside(kind, CLICKED, THROWN)) {
            return NONE;
        }
        if (!inside(what, 1, kind == THROWN ? LONGEST : on.length)) {
            return NONE;
        }
        if (!inside(cost, 1, 99) || !inside(slack, 0, 50)) {
            return NONE;
        }
        if (kind == CUPPED && !inside(bucket, 0, MOST_GRAINS)) {
            return NONE;
        }
        trials[trialCount] = new Trial(kind, let, on, what, kind == CUPPED ? bucket : 0, cost, slack);
        trialCount++;
        return trialCount - 1;
    }

    public int told(int trial, int what) throws NoSuchElementException {
        Trial of = trialAt(trial);
        if (of == null || !inside(what, 0, 7)) {
            throw new NoSuchElementException("no such trial, or nothing such is told of it");
        }
        switch (what) {
            case 0: return of.kind;
            case 1: return of.ball.index;
            case 2: return of.beam.index;
            case 3: return of.what;
            case 4: return of.bucket;
            case 5: return of.cost;
            case 6: return of.slack;
            default: return of.written;
        }
    }

    public int is(int law, int trial) {
        Law by = lawAt(law);
        Trial of = trialAt(trial);
        if (by == null || of == null) {
            return NONE;
        }
        if (of.kind == THROWN) {
            int far = farOf(by, of);
            return far == NONE ? NONE : rolledFar(far, by.roll);
        }
        int ticks = runOf(by, of.ball, of.beam).clickAt(of.what);
        return of.kind == CLICKED || ticks == NONE ? ticks : grainsInCup(by, of.bucket, ticks);
    }

    public boolean write(int trial, int number) {
        Trial of = trialAt(trial);
        if (of == null || !inside(number, NONE, MILLION)) {
            return false;
        }
        of.written = number;
        writings++;
        return true;
    }

    public int value(int guess, int a, int b, int ball, int beam, int tick) {
        Guess of = guessAt(guess);
        Ball let = ballAt(ball);
        Beam on = beamAt(beam);
        if (of == null || let == null || on == null || !isPair(a, b) || !inside(tick, 0, MOST_TICKS)) {
            return HIDDEN;
        }
        return worthOf(of, OPEN * a + b, let, on, tick);
    }

    public int fits(int guess, int i) {
        Guess of = guessAt(guess);
        if (of == null || !inside(i, NONE, PAIRS - 1)) {
            return NONE;
        }
        seekFits(of, i == NONE ? PAIRS : i + 1);
        return i == NONE ? of.fitCount : of.fitAt(i);
    }

    public int span(int guess, int what) {
        Guess of = guessAt(guess);
        if (of == null || !inside(what, 0, 3)) {
            return NONE;
        }
        seekFits(of, PAIRS);
        int least = NONE;
        int greatest = NONE;
        for (int i = 0; i < of.fitCount; i++) {
            int pair = of.fitAt(i);
            int open = what < 2 ? pair / OPEN : pair % OPEN;
            least = least == NONE ? open : Math.min(least, open);
            greatest = Math.max(greatest, open);
        }
        return what % 2 == 0 ? least : greatest;
    }

    public int left() {
        int bits = 0;
        for (int i = 0; i < guessCount; i++) {
            seekFits(guesses[i], 1);
            if (guesses[i].fitCount > 0) {
                bits |= 1 << i;
            }
        }
        return bits;
    }

    public int parts(int one, int other, int ball, int beam, int ticks, int what) {
        Guess first = guessAt(one);
        Guess second = guessAt(other);
        Ball let = ballAt(ball);
        Beam on = beamAt(beam);
        if (first == null || second == null || let == null || on == null) {
            return NONE;
        }
        if (!inside(ticks, 1, MOST_TICKS) || !inside(what, 0, 1)) {
            return NONE;
        }
        seekFits(first, 1);
        seekFits(second, 1);
        if (first.fitCount == 0 || second.fitCount == 0) {
            return NONE;
        }
        int tick = NONE;
        int farthest = NONE;
        for (int t = 1; t <= ticks; t++) {
            int apart = Math.abs(orNothing(worthOf(first, first.fitAt(0), let, on, t))
                    - orNothing(worthOf(second, second.fitAt(0), let, on, t)));
            if (apart > farthest) {
                farthest = apart;
                tick = t;
            }
        }
        return what == 0 ? tick : farthest;
    }

    public int worlds(int guess, int a, int b) {
        Guess of = guessAt(guess);
        if (of == null || !isPair(a, b)) {
            return NONE;
        }
        int bits = 0;
        for (int i = 0; i < lawCount; i++) {
            if (isRightIn(of, OPEN * a + b, laws[i])) {
                bits |= 1 << i;
            }
        }
        return bits;
    }

    public boolean pin(int guess, int a, int b) {
        Guess of = guessAt(guess);
        if (of == null || !isPair(a, b)) {
            return false;
        }
        of.pinned = OPEN * a + b;
        return true;
    }

    public int cheapest(int law, int what) {
        Law by = lawAt(law);
        if (by == null || !inside(what, 0, 2)) {
            return NONE;
        }
        gatherChoice(by);
        int all = (1 << guessCount) - 1;
        int set = choice.cheapestSet(all);
        if (set == NONE) {
            return NONE;
        }
        // One bit is left: the bits below it are as many as its number.
        switch (what) {
            case 0: return choice.trialsOf(set);
            case 1: return choice.costOf(set);
            default: return Integer.bitCount((all & ~choice.refutedBy(set)) - 1);
        }
    }

    public int odd(int law, int ball, int beam, int step, int k, int ear) {
        Path run = runAt(law, ball, beam);
        if (run == null || step < 1 || !inside(k, 1, MOST_STRINGS) || !inside(ear, 0, 100)) {
            return NONE;
        }
        if ((long) k * step > MOST_TICKS) {
            return NONE;
        }
        int first = run.wayAfter(step);
        int odd = 0;
        for (int i = 1; i <= k; i++) {
            int next = run.wayAfter(i * step) - run.wayAfter((i - 1) * step);
            if (Math.abs(next - (2 * i - 1) * first) <= ear) {
                odd++;
            }
        }
        return odd;
    }

    public int ear(int law, int ball, int beam, int step, int i, int e, int what) {
        Path run = runAt(law, ball, beam);
        Beam on = beamAt(beam);
        if (run == null || on == null || step < 1 || i < 1 || !inside(e, 0, 100) || !inside(what, 0, 1)) {
            return NONE;
        }
        if ((long) i * step + e > MOST_TICKS) {
            return NONE;
        }
        // A place clicks in the tick that first brings the way to it: from behind the way of the tick before.
        int least = run.wayAfter(Math.max(i * step - e, 1) - 1) + 1;
        int greatest = Math.min(run.wayAfter(i * step + e), on.length);
        if (least > greatest) {
            return NONE;
        }
        return what == 0 ? least : greatest;
    }

    public int sheet() {
        if (sheetCount >= MOST_SHEETS) {
            return NONE;
        }
        sheetCount++;
        return sheetCount - 1;
    }

    public int number(int sheet, int v) {
        if (!inside(sheet, 0, sheetCount - 1) || !inside(v, 0, MILLION)) {
            return NONE;
        }
        int size = sheetSizes[sheet];
        if (size >= MOST_NUMBERS) {
            return NONE;
        }
        sheets[sheet][size] = v;
        sheetSizes[sheet] = size + 1;
        return size + 1;
    }

    public int found(int sheet, int guess, int ball, int beam, int step, int i) {
        Reading reading = readingOf(sheet, guess, ball, beam, step);
        if (reading == null || i < NONE) {
            return NONE;
        }
        int seen = 0;
        for (int pair = 0; pair < PAIRS; pair++) {
            if (workedBy(reading, pair, 0) != NONE) {
                if (seen == i) {
                    return pair;
                }
                seen++;
            }
        }
        return i == NONE ? seen : NONE;
    }

    public int most(int sheet, int guess, int ball, int beam, int step, int what) {
        Reading reading = readingOf(sheet, guess, ball, beam, step);
        if (reading == null || !inside(what, 0, 2)) {
            return NONE;
        }
        int pair = bestPair(reading);
        switch (what) {
            case 0: return pair;
            case 1: return workedBy(reading, pair, MOST_NUMBERS);
            default: return offBy(reading, pair);
        }
    }

    public long well(int sheet, int guess, int ball, int beam, int step, int e, int what) {
        Reading reading = readingOf(sheet, guess, ball, beam, step);
        if (reading == null || !inside(e, 0, MOST_ERROR) || !inside(what, 0, 1)) {
            return NONE;
        }
        return rowsUpTo(reading.size, e, what == 1 ? reading.size * e : offBy(reading, bestPair(reading)));
    }

    public int rolls(int law, int what) {
        Law by = lawAt(law);
        if (by == null || !inside(what, 0, 1)) {
            return NONE;
        }
        int least = 0;
        int greatest = MOST_ROLL;
        for (int i = 0; i < trialCount; i++) {
            Trial of = trials[i];
            int far = of.kind == THROWN && of.written != NONE ? farOf(by, of) : NONE;
            if (far != NONE) {
                // The way thrown grows with the roll: what one trial lets is one stretch without gaps.
                while (least <= greatest && !isNear(rolledFar(far, least), of.written, of.slack)) {
                    least++;
                }
                while (least <= greatest && !isNear(rolledFar(far, greatest), of.written, of.slack)) {
                    greatest--;
                }
            }
        }
        if (least > greatest) {
            return NONE;
        }
        return what == 0 ? least : greatest;
    }

    public int tower(int law, int one, int other, int height, int late, int later) {
        int first = fall(law, one, height);
        int second = fall(law, other, height);
        if (first == NONE || second == NONE || !inside(late, 0, MOST_TICKS) || !inside(later, 0, MOST_TICKS)) {
            return NONE;
        }
        return firstDown(first + late, second + later);
    }

    public int hands(int law, int one, int other, int height, int m, int what) {
        int first = fall(law, one, height);
        int second = fall(law, other, height);
        if (first == NONE || second == NONE || !inside(m, 1, MOST_LATE) || !inside(what, 0, 2)) {
            return NONE;
        }
        int pairs = 0;
        for (int late = 0; late < m; late++) {
            for (int later = 0; later < m; later++) {
                if (firstDown(first + late, second + later) == what) {
                    pairs++;
                }
            }
        }
        return pairs;
    }

    public int drawn(int law, int ball, int one, int other, int ticks, int what) {
        Path first = runAt(law, ball, one);
        Path second = runAt(law, ball, other);
        Path drop = dropAt(law, ball);
        if (first == null || second == null || drop == null) {
            return HIDDEN;
        }
        int steeper = second.slope - first.slope;
        if (steeper == 0 || !inside(ticks, 0, MOST_TICKS) || !inside(what, 0, 1)) {
            return HIDDEN;
        }
        int way = first.wayAfter(ticks);
        long more = (long) (second.wayAfter(ticks) - way) * (STEEPEST - first.slope) / steeper;
        int drawn = (int) (way + more);
        return what == 0 ? drawn : drawn - drop.wayAfter(ticks);
    }

    public int count(int what) {
        switch (what) {
            case 0: return ballCount;
            case 1: return beamCount;
            case 2: return lawCount;
            case 3: return guessCount;
            case 4: return trialCount;
            case 5: return writtenTrials();
            case 6: return sheetCount;
            case 7: return numbersOnSheets();
            case 8: return tapeSize;
            default: return NONE;
        }
    }

    private static boolean inside(int v, int least, int greatest) {
        return v >= least && v <= greatest;
    }

    private static boolean isPair(int a, int b) {
        return inside(a, 0, OPEN - 1) && inside(b, 0, OPEN - 1);
    }

    private static boolean isNear(int v, int mark, int slack) {
        return Math.abs(v - mark) <= slack;
    }

    private static int orNothing(int worth) {
        return worth == HIDDEN ? 0 : worth;
    }

    private Ball ballAt(int i) {
        return inside(i, 0, ballCount - 1) ? balls[i] : null;
    }

    private Beam beamAt(int i) {
        return inside(i, 0, beamCount - 1) ? beams[i] : null;
    }

    private Law lawAt(int i) {
        return inside(i, 0, lawCount - 1) ? laws[i] : null;
    }

    private Guess guessAt(int i) {
        return inside(i, 0, guessCount - 1) ? guesses[i] : null;
    }

    private Trial trialAt(int i) {
        return inside(i, 0, trialCount - 1) ? trials[i] : null;
    }

    private static int bytesIn(int number) {
        int bytes = 0;
        for (int shift = 24; shift >= 0; shift -= 8) {
            if ((number >>> shift & 255) != 0) {
                bytes++;
            }
        }
        return bytes;
    }

    private void putBytes(int number) {
        for (int shift = 24; shift >= 0; shift -= 8) {
            int next = number >>> shift & 255;
            if (next != 0 && tapeSize < MOST_BYTES) {
                reader.tape[tapeSize] = next;
                tapeSize++;
            }
        }
    }

    /** The run by these numbers; null if there are no such ones. */
    private Path runAt(int law, int ball, int beam) {
        Law by = lawAt(law);
        Ball let = ballAt(ball);
        Beam on = beamAt(beam);
        return by == null || let == null || on == null ? null : runOf(by, let, on);
    }

    /** The fall by these numbers; null if there are no such ones. */
    private Path dropAt(int law, int ball) {
        Law by = lawAt(law);
        Ball let = ballAt(ball);
        return by == null || let == null ? null : dropOf(by, let);
    }

    /** Laws, balls and beams never change, so a path once begun is kept and only gone on with. */
    private Path runOf(Law law, Ball ball, Beam beam) {
        int place = ball.index * MOST_BEAMS + beam.index;
        Path run = law.runs[place];
        if (run == null) {
            run = new Path(reckoner, law, ROLLING, ball, beam.slope, beam.rough, beam.slope - beam.rough);
            law.runs[place] = run;
        }
        return run;
    }

    private Path dropOf(Law law, Ball ball) {
        Path drop = law.drops[ball.index];
        if (drop == null) {
            drop = new Path(reckoner, law, FALLING, ball, STEEPEST, 0, USUAL_FALL);
            law.drops[ball.index] = drop;
        }
        return drop;
    }

    private int grainsInCup(Law law, int bucket, int ticks) {
        int rest = bucket;
        reckoner.forget();
        for (int t = 0; t < ticks && rest > 0; t++) {
            reckoner.letters[T] = t;
            reckoner.letters[N] = rest;
            int worth = reckoner.worth(law.clauses, FLOWING);
            int flow = worth == HIDDEN ? USUAL_FLOW : worth;
            rest -= Math.min(Math.max(flow, 0), rest);
        }
        return bucket - rest;
    }

    /** FAR of a thrown trial; NONE if a click is missing. */
    private int farOf(Law law, Trial trial) {
        Path run = runOf(law, trial.ball, trial.beam);
        int leaves = run.clickAt(trial.beam.length);
        int lands = dropOf(law, trial.ball).clickAt(trial.what);
        return leaves == NONE || lands == NONE ? NONE : run.speedAfter(leaves) * lands;
    }

    private static int rolledFar(int far, int roll) {
        return (int) ((long) far * roll / MOST_ROLL);
    }

    private int worthOf(Guess guess, int pair, Ball ball, Beam beam, int tick) {
        reckoner.tellGuessed(pair, ball, beam, tick);
        return reckoner.worth(guess.clauses, GUESSED);
    }

    /** Whether a guess by a pair has at a tick a worth that is within the slack of a clicked trial's place. */
    private boolean agrees(Guess guess, int pair, Trial trial, int tick) {
        reckoner.tellGuessed(pair, trial.ball, trial.beam, tick);
        int worth = reckoner.worth(guess.clauses, GUESSED);
        return worth != HIDDEN && isNear(worth, trial.what, trial.slack);
    }

    /** Goes on through the pairs until so many fits are known or no pair is left. */
    private void seekFits(Guess guess, int wanted) {
        if (guess.writings != writings) {
            guess.writings = writings;
            guess.fitCount = 0;
            guess.nextPair = 0;
        }
        while (guess.nextPair < PAIRS && guess.fitCount < wanted) {
            if (isLet(guess, guess.nextPair)) {
                guess.fits[guess.fitCount] = guess.nextPair;
                guess.fitCount++;
            }
            guess.nextPair++;
        }
    }

    private boolean isLet(Guess guess, int pair) {
        for (int i = 0; i < trialCount; i++) {
            Trial trial = trials[i];
            if (trial.kind == CLICKED && inside(trial.written, 1, MOST_TICKS)
                    && !agrees(guess, pair, trial, trial.written)) {
                return false;
            }
        }
        return true;
    }

    private boolean isRightIn(Guess guess, int pair, Law law) {
        for (int i = 0; i < trialCount; i++) {
            Trial trial = trials[i];
            if (trial.kind == CLICKED) {
                int tick = runOf(law, trial.ball, trial.beam).clickAt(trial.what);
                if (tick == NONE || !agrees(guess, pair, trial, tick)) {
                    return false;
                }
            }
        }
        return true;
    }

    /** Puts the first clicked trials into the choice, each with the guesses that it refutes in a law. */
    private void gatherChoice(Law law) {
        choice.size = 0;
        for (int i = 0; i < trialCount && choice.size < Choice.MOST; i++) {
            if (trials[i].kind == CLICKED) {
                int tick = runOf(law, trials[i].ball, trials[i].beam).clickAt(trials[i].what);
                choice.take(i, trials[i].cost, tick == NONE ? 0 : refutedAt(trials[i], tick));
            }
        }
    }

    private int refutedAt(Trial trial, int tick) {
        int bits = 0;
        for (int i = 0; i < guessCount; i++) {
            if (!agrees(guesses[i], guesses[i].pinned, trial, tick)) {
                bits |= 1 << i;
            }
        }
        return bits;
    }

    /** What a call about a sheet reads; null if there are no such ones or the sheet is empty. */
    private Reading readingOf(int sheet, int guess, int ball, int beam, int step) {
        Guess of = guessAt(guess);
        Ball let = ballAt(ball);
        Beam on = beamAt(beam);
        if (of == null || let == null || on == null || !inside(step, 1, MOST_STEP)) {
            return null;
        }
        if (!inside(sheet, 0, sheetCount - 1) || sheetSizes[sheet] == 0) {
            return null;
        }
        return new Reading(sheets[sheet], sheetSizes[sheet], of, let, on, step);
    }

    private int worthOfNumber(Reading reading, int pair, int i) {
        reckoner.tellGuessed(pair, reading.ball, reading.beam, (i + 1) * reading.step);
        return reckoner.worth(reading.guess.clauses, GUESSED);
    }

    /** The numbers that are as guessed by a pair, as bits; NONE if more than so many miss. */
    private int workedBy(Reading reading, int pair, int misses) {
        int bits = 0;
        int missed = 0;
        for (int i = 0; i < reading.size; i++) {
            if (worthOfNumber(reading, pair, i) == reading.numbers[i]) {
                bits |= 1 << i;
            } else {
                missed++;
                if (missed > misses) {
                    return NONE;
                }
            }
        }
        return bits;
    }

    private int bestPair(Reading reading) {
        int best = 0;
        int misses = reading.size - Integer.bitCount(workedBy(reading, best, MOST_NUMBERS));
        for (int pair = 1; pair < PAIRS && misses > 0; pair++) {
            int bits = workedBy(reading, pair, misses - 1);
            if (bits != NONE) {
                best = pair;
                misses = reading.size - Integer.bitCount(bits);
            }
        }
        return best;
    }

    private int offBy(Reading reading, int pair) {
        int off = 0;
        for (int i = 0; i < reading.size; i++) {
            off += Math.abs(reading.numbers[i] - orNothing(worthOfNumber(reading, pair, i)));
        }
        return off;
    }

    /** How many rows of so many errors, each -e .. e, have a sum without signs of at most so much. */
    private long rowsUpTo(int length, int e, int sum) {
        Arrays.fill(rowsBySum, 0);
        rowsBySum[0] = 1;
        int greatest = Math.min(length * e, rowsBySum.length - 1);
        for (int i = 0; i < length; i++) {
            // From the greatest sum down, so that each row is made from rows that are one error shorter.
            for (int s = greatest; s > 0; s--) {
                for (int error = 1; error <= e && error <= s; error++) {
                    rowsBySum[s] += 2 * rowsBySum[s - error];
                }
            }
        }
        long rows = 0;
        for (int s = 0; s <= greatest && s <= sum; s++) {
            rows += rowsBySum[s];
        }
        return rows;
    }

    private static int firstDown(int first, int second) {
        if (first == second) {
            return 0;
        }
        return first < second ? 1 : 2;
    }

    private int writtenTrials() {
        int written = 0;
        for (int i = 0; i < trialCount; i++) {
            if (trials[i].written != NONE) {
                written++;
            }
        }
        return written;
    }

    private int numbersOnSheets() {
        int numbers = 0;
        for (int i = 0; i < sheetCount; i++) {
            numbers += sheetSizes[i];
        }
        return numbers;
    }

    private static final class Ball {
        final int index;
        final int size;
        final int weight;

        Ball(int index, int size, int weight) {
            this.index = index;
            this.size = size;
            this.weight = weight;
        }
    }

    private static final class Beam {
        final int index;
        final int length;
        final int slope;
        final int rough;

        Beam(int index, int length, int slope, int rough) {
            this.index = index;
            this.length = length;
            this.slope = slope;
            this.rough = rough;
        }
    }

    /** A clause as codes, each sign behind what it joins; a clause without condition has an empty one. */
    private static final class Clause {
        final int label;
        final int[] condition;
        final int[] sum;

        Clause(int label, int[] condition, int[] sum) {
            this.label = label;
            this.condition = condition;
            this.sum = sum;
        }
    }

    private static final class Law {
        final Clause[] clauses;
        final Path[] runs = new Path[MOST_BALLS * MOST_BEAMS];
        final Path[] drops = new Path[MOST_BALLS];
        int roll = MOST_ROLL;

        Law(Clause[] clauses) {
            this.clauses = clauses;
        }
    }

    /** A guess, the pair pinned to it, and its fits as far as they have been looked for. */
    private static final class Guess {
        final Clause[] clauses;
        final int[] fits = new int[PAIRS];
        int fitCount = 0;
        int nextPair = 0;
        int writings = 0;
        int pinned = 0;

        Guess(Clause[] clauses) {
            this.clauses = clauses;
        }

        int fitAt(int i) {
            return inside(i, 0, fitCount - 1) ? fits[i] : NONE;
        }
    }

    private static final class Trial {
        final int kind;
        final Ball ball;
        final Beam beam;
        final int what;
        final int bucket;
        final int cost;
        final int slack;
        int written = NONE;

        Trial(int kind, Ball ball, Beam beam, int what, int bucket, int cost, int slack) {
            this.kind = kind;
            this.ball = ball;
            this.beam = beam;
            this.what = what;
            this.bucket = bucket;
            this.cost = cost;
            this.slack = slack;
        }
    }

    /** A sheet held against a guess. */
    private static final class Reading {
        final int[] numbers;
        final int size;
        final Guess guess;
        final Ball ball;
        final Beam beam;
        final int step;

        Reading(int[] numbers, int size, Guess guess, Ball ball, Beam beam, int step) {
            this.numbers = numbers;
            this.size = size;
            this.guess = guess;
            this.ball = ball;
            this.beam = beam;
            this.step = step;
        }
    }

    /** A run or a fall, worked out as far as it has been asked for. */
    private static final class Path {
        final Reckoner reckoner;
        final Law law;
        final int label;
        final Ball ball;
        final int slope;
        final int rough;
        final int usual;
        final int[] ways = new int[MOST_TICKS + 1];
        int known = 0;

        Path(Reckoner reckoner, Law law, int label, Ball ball, int slope, int rough, int usual) {
            this.reckoner = reckoner;
            this.law = law;
            this.label = label;
            this.ball = ball;
            this.slope = slope;
            this.rough = rough;
            this.usual = usual;
        }

        int wayAfter(int ticks) {
            reach(ticks);
            return inside(ticks, 0, known) ? ways[ticks] : NONE;
        }

        int speedAfter(int ticks) {
            return ticks <= 0 ? 0 : wayAfter(ticks) - wayAfter(ticks - 1);
        }

        /** The tick after which the way is that or more for the first time; NONE if there is none. */
        int clickAt(int place) {
            for (int t = 1; t <= MOST_TICKS; t++) {
                reach(t);
                if (ways[t] >= place) {
                    return t;
                }
            }
            return NONE;
        }

        private void reach(int ticks) {
            if (known >= ticks) {
                return;
            }
            reckoner.forget();
            reckoner.tellThings(ball, slope, rough);
            while (known < ticks && known < MOST_TICKS) {
                int speed = known == 0 ? 0 : ways[known] - ways[known - 1];
                reckoner.letters[T] = known;
                reckoner.letters[X] = ways[known];
                reckoner.letters[V] = speed;
                int worth = reckoner.worth(law.clauses, label);
                int faster = speed + (worth == HIDDEN ? usual : worth);
                ways[known + 1] = ways[known] + Math.min(Math.max(faster, 0), MOST_SPEED);
                known++;
            }
        }
    }

    /** Works out what texts are worth, with one row of letters and one stack for all of them. */
    private static final class Reckoner {
        final int[] letters = new int[LETTERS.length()];
        /** A text pushes less often than it has bytes. */
        private final int[] stack = new int[MOST_BYTES];

        void forget() {
            Arrays.fill(letters, 0);
        }

        void tellThings(Ball ball, int slope, int rough) {
            letters[S] = slope;
            letters[R] = rough;
            letters[W] = ball.weight;
            letters[Z] = ball.size;
        }

        void tellGuessed(int pair, Ball ball, Beam beam, int tick) {
            tellThings(ball, beam.slope, beam.rough);
            letters[T] = tick;
            letters[A] = pair / OPEN;
            letters[B] = pair % OPEN;
        }

        /** The sum of the first clause of a label whose condition holds; HIDDEN, which no sum is, if there is none. */
        int worth(Clause[] clauses, int label) {
            for (int i = 0; i < clauses.length; i++) {
                Clause clause = clauses[i];
                if (clause.label == label && (clause.condition.length == 0 || reckon(clause.condition) == 1)) {
                    return reckon(clause.sum);
                }
            }
            return HIDDEN;
        }

        /** The reader makes no codes that the guards here would stop; they keep every index looked at. */
        private int reckon(int[] codes) {
            int height = 0;
            for (int i = 0; i < codes.length; i++) {
                int code = codes[i];
                if (code < SIGN_CODE) {
                    if (height >= stack.length) {
                        return 0;
                    }
                    int letter = code - LETTER_CODE;
                    stack[height] = letter >= 0 && letter < letters.length ? letters[letter] : code;
                    height++;
                } else if (code == SIGN_CODE + '!') {
                    if (height < 1) {
                        return 0;
                    }
                    stack[height - 1] = 1 - stack[height - 1];
                } else {
                    if (height < 2) {
                        return 0;
                    }
                    height--;
                    stack[height - 1] = joined(code - SIGN_CODE, stack[height - 1], stack[height]);
                }
            }
            return height == 1 ? stack[0] : 0;
        }

        /** Truths are 1 and 0. The way of a run may be beyond a million, so products are made as longs. */
        private static int joined(int sign, int a, int b) {
            long result;
            switch (sign) {
                case '&': return a & b;
                case '|': return a | b;
                case '=': return a == b ? 1 : 0;
                case '<': return a < b ? 1 : 0;
                case '>': return a > b ? 1 : 0;
                case '+': result = (long) a + b; break;
                case '-': result = (long) a - b; break;
                case '*': result = (long) a * b; break;
                default: result = b == 0 ? 0 : (long) a / b; break;
            }
            if (result > MILLION) {
                return MILLION;
            }
            return result < -MILLION ? -MILLION : (int) result;
        }
    }

    /** Reads a text from the left, one byte ahead: it stops at the first byte at which no text can go on. */
    private static final class Reader {
        final int[] tape = new int[MOST_BYTES];
        private int length = 0;
        private int at = 0;
        private String labels = LAW_LABELS;
        private String letters = LAW_LETTERS;
        private final int[] codes = new int[MOST_BYTES];
        private int codeCount = 0;
        private final int[] labelOf = new int[MOST_CLAUSES];
        private final int[] startOf = new int[MOST_CLAUSES];
        private final int[] sumOf = new int[MOST_CLAUSES];
        private final int[] endOf = new int[MOST_CLAUSES];
        private int clauseCount = 0;

        /** The FAULT of the first so many bytes of the tape as a text of a sort; NONE if they are one. */
        int faultOf(int size, int sort) {
            length = Math.min(size, tape.length);
            at = 0;
            labels = sort == LAW_SORT ? LAW_LABELS : GUESS_LABELS;
            letters = sort == LAW_SORT ? LAW_LETTERS : GUESS_LETTERS;
            codeCount = 0;
            clauseCount = 0;
            for (int i = 0; i < MOST_CLAUSES; i++) {
                if (!readClause()) {
                    return at;
                }
                if (ahead() == 0) {
                    return NONE;
                }
                if (!pass(';')) {
                    return at;
                }
            }
            return at;
        }

        Clause[] clausesRead() {
            Clause[] clauses = new Clause[clauseCount];
            for (int i = 0; i < clauses.length; i++) {
                int[] condition = Arrays.copyOfRange(codes, startOf[i], sumOf[i]);
                clauses[i] = new Clause(labelOf[i], condition, Arrays.copyOfRange(codes, sumOf[i], endOf[i]));
            }
            return clauses;
        }

        /** The next byte behind blanks; 0, which no tape holds, at the end. */
        private int ahead() {
            while (at < length && tape[at] == ' ') {
                at++;
            }
            return at < length ? tape[at] : 0;
        }

        private boolean pass(int sign) {
            if (ahead() != sign) {
                return false;
            }
            at++;
            return true;
        }

        private void put(int code) {
            if (codeCount < codes.length) {
                codes[codeCount] = code;
                codeCount++;
            }
        }

        private boolean readClause() {
            int label = labels.indexOf((char) ahead());
            if (label < 0) {
                return false;
            }
            at++;
            if (!pass(':')) {
                return false;
            }
            int start = codeCount;
            int sum = start;
            boolean asks = ahead() == '!' || ahead() == '(';
            if (!(asks ? readCondition(0) : readSum(0))) {
                return false;
            }
            if (!asks && compares(ahead())) {
                // What has been read is the left side of the condition's first unit.
                asks = true;
                if (!readComparison(0) || !readMoreUnits(0) || !readMoreTruths(0)) {
                    return false;
                }
            }
            if (asks) {
                sum = codeCount;
                if (!pass('?') || !readSum(0)) {
                    return false;
                }
            }
            noteClause(label, start, sum);
            return true;
        }

        private void noteClause(int label, int start, int sum) {
            if (clauseCount < MOST_CLAUSES) {
                labelOf[clauseCount] = label;
                startOf[clauseCount] = start;
                sumOf[clauseCount] = sum;
                endOf[clauseCount] = codeCount;
                clauseCount++;
            }
        }

        private boolean readCondition(int depth) {
            return readUnit(depth) && readMoreUnits(depth) && readMoreTruths(depth);
        }

        private boolean readMoreTruths(int depth) {
            for (int i = 0; i < length && pass('|'); i++) {
                if (!readUnit(depth) || !readMoreUnits(depth)) {
                    return false;
                }
                put(SIGN_CODE + '|');
            }
            return true;
        }

        private boolean readMoreUnits(int depth) {
            for (int i = 0; i < length && pass('&'); i++) {
                if (!readUnit(depth)) {
                    return false;
                }
                put(SIGN_CODE + '&');
            }
            return true;
        }

        private boolean readUnit(int depth) {
            int sign = ahead();
            if (sign != '!' && sign != '(') {
                return readSum(depth) && readComparison(depth);
            }
            if (depth >= DEEPEST) {
                return false;
            }
            at++;
            if (sign == '(') {
                return readCondition(depth + 1) && pass(')');
            }
            if (!readUnit(depth + 1)) {
                return false;
            }
            put(SIGN_CODE + '!');
            return true;
        }

        private static boolean compares(int sign) {
            return sign == '=' || sign == '<' || sign == '>';
        }

        private boolean readComparison(int depth) {
            int sign = ahead();
            if (!compares(sign)) {
                return false;
            }
            at++;
            if (!readSum(depth)) {
                return false;
            }
            put(SIGN_CODE + sign);
            return true;
        }

        private boolean readSum(int depth) {
            if (!readTerm(depth)) {
                return false;
            }
            for (int i = 0; i < length; i++) {
                int sign = ahead();
                if (sign != '+' && sign != '-') {
                    return true;
                }
                at++;
                if (!readTerm(depth)) {
                    return false;
                }
                put(SIGN_CODE + sign);
            }
            return true;
        }

        private boolean readTerm(int depth) {
            if (!readAtom(depth)) {
                return false;
            }
            for (int i = 0; i < length; i++) {
                int sign = ahead();
                if (sign != '*' && sign != '/') {
                    return true;
                }
                at++;
                if (!readAtom(depth)) {
                    return false;
                }
                put(SIGN_CODE + sign);
            }
            return true;
        }

        private boolean readAtom(int depth) {
            int sign = ahead();
            if (sign >= '0' && sign <= '9') {
                return readNumber();
            }
            if (sign == '[') {
                if (depth >= DEEPEST) {
                    return false;
                }
                at++;
                return readSum(depth + 1) && pass(']');
            }
            if (letters.indexOf((char) sign) < 0) {
                return false;
            }
            at++;
            put(LETTER_CODE + LETTERS.indexOf((char) sign));
            return true;
        }

        private boolean readNumber() {
            int number = 0;
            int start = at;
            while (at < length && tape[at] >= '0' && tape[at] <= '9') {
                if (at - start == MOST_DIGITS) {
                    return false;
                }
                number = 10 * number + tape[at] - '0';
                at++;
            }
            put(number);
            return true;
        }
    }

    /** Up to ten trials, each with its cost and the guesses that it refutes; sets of them are bits of their rows. */
    private static final class Choice {
        static final int MOST = 10;
        private final int[] trials = new int[MOST];
        private final int[] costs = new int[MOST];
        private final int[] refuted = new int[MOST];
        int size = 0;

        void take(int trial, int cost, int guesses) {
            if (size < MOST) {
                trials[size] = trial;
                costs[size] = cost;
                refuted[size] = guesses;
                size++;
            }
        }

        /** The cheapest set that leaves just one of all guesses; NONE if there is none. */
        int cheapestSet(int all) {
            int best = NONE;
            int least = 0;
            for (int set = 0; set < 1 << size; set++) {
                if (Integer.bitCount(all & ~refutedBy(set)) == 1) {
                    int cost = costOf(set);
                    if (best == NONE || cost < least || cost == least && goesBefore(set, best)) {
                        best = set;
                        least = cost;
                    }
                }
            }
            return best;
        }

        /** Rows stand in the order of the trials: the lowest bit that just one has is the lower trial. */
        private static boolean goesBefore(int set, int other) {
            int unlike = set ^ other;
            return (set & unlike & -unlike) != 0;
        }

        int refutedBy(int set) {
            int bits = 0;
            for (int i = 0; i < size; i++) {
                if ((set >> i & 1) == 1) {
                    bits |= refuted[i];
                }
            }
            return bits;
        }

        int costOf(int set) {
            int cost = 0;
            for (int i = 0; i < size; i++) {
                if ((set >> i & 1) == 1) {
                    cost += costs[i];
                }
            }
            return cost;
        }

        int trialsOf(int set) {
            int bits = 0;
            for (int i = 0; i < size; i++) {
                if ((set >> i & 1) == 1) {
                    bits |= 1 << trials[i];
                }
            }
            return bits;
        }
    }
}
