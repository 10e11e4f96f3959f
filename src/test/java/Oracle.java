import java.util.ArrayList;
import java.util.HashMap;
import java.util.List;
import java.util.Map;
import java.util.NoSuchElementException;

/**
 * The document told a second time, as naively as can be: nothing is kept between calls, texts are read by trying
 * every way to read them, and everything that can be counted is counted out. OracleTest holds the class against it.
 */
final class Oracle {
    private static final int NONE = -1;
    private static final int HIDDEN = -100000000;

    interface Node {
        long worth(long[] letters);
    }

    record Part(int end, Node node) {
    }

    record Clause(char label, Node condition, Node sum, int end) {
    }

    /** All ways to read a text; the farthest byte that was looked at is the fault, if no way reads it all. */
    static final class Grammar {
        final String text;
        final String labels;
        final String letters;
        int far = 0;

        Grammar(String text, boolean law) {
            this.text = text;
            this.labels = law ? "gdq" : "y";
            this.letters = law ? "txvsrwzn" : "tsrwzab";
        }

        int skip(int p) {
            while (p < text.length() && text.charAt(p) == ' ') {
                p++;
            }
            return p;
        }

        /** The place behind a sign that stands at p, one of those allowed, or -1. */
        int sign(int p, String allowed) {
            int q = skip(p);
            far = Math.max(far, q);
            return q < text.length() && allowed.indexOf(text.charAt(q)) >= 0 ? q + 1 : -1;
        }

        List<Part> atoms(int p, int depth) {
            List<Part> all = new ArrayList<>();
            int start = skip(p);
            int q = sign(p, "0123456789");
            for (int digits = 1; q >= 0 && digits <= 4; digits++) {
                long number = Long.parseLong(text.substring(start, q));
                all.add(new Part(q, l -> number));
                boolean more = q < text.length() && Character.isDigit(text.charAt(q));
                q = more ? q + 1 : -1;
            }
            q = sign(p, letters);
            if (q >= 0) {
                char letter = text.charAt(q - 1);
                all.add(new Part(q, l -> l[letter]));
            }
            q = depth < 6 ? sign(p, "[") : -1;
            if (q >= 0) {
                for (Part sum : sums(q, depth + 1)) {
                    int behind = sign(sum.end, "]");
                    if (behind >= 0) {
                        all.add(new Part(behind, sum.node));
                    }
                }
            }
            return all;
        }

        static long bounded(long v) {
            return Math.max(-1000000, Math.min(1000000, v));
        }

        static Node joined(char sign, Node one, Node other) {
            switch (sign) {
                case '+': return l -> bounded(one.worth(l) + other.worth(l));
                case '-': return l -> bounded(one.worth(l) - other.worth(l));
                case '*': return l -> bounded(one.worth(l) * other.worth(l));
                case '/': return l -> other.worth(l) == 0 ? 0 : bounded(one.worth(l) / other.worth(l));
                case '=': return l -> one.worth(l) == other.worth(l) ? 1 : 0;
                case '<': return l -> one.worth(l) < other.worth(l) ? 1 : 0;
                case '>': return l -> one.worth(l) > other.worth(l) ? 1 : 0;
                case '&': return l -> one.worth(l) == 1 && other.worth(l) == 1 ? 1 : 0;
                default: return l -> one.worth(l) == 1 || other.worth(l) == 1 ? 1 : 0;
            }
        }

        List<Part> level(int kind, int p, int depth) {
            switch (kind) {
                case 0: return atoms(p, depth);
                case 1: return units(p, depth);
                case 2: return chain(0, p, depth, "*/");
                default: return chain(1, p, depth, "&");
            }
        }

        List<Part> chain(int kind, int p, int depth, String signs) {
            List<Part> all = new ArrayList<>(level(kind, p, depth));
            for (int i = 0; i < all.size(); i++) {
                Part before = all.get(i);
                int q = sign(before.end, signs);
                if (q >= 0) {
                    char sign = text.charAt(q - 1);
                    for (Part next : level(kind, q, depth)) {
                        all.add(new Part(next.end, joined(sign, before.node, next.node)));
                    }
                }
            }
            return all;
        }

        List<Part> sums(int p, int depth) {
            return chain(2, p, depth, "+-");
        }

        List<Part> conditions(int p, int depth) {
            return chain(3, p, depth, "|");
        }

        List<Part> units(int p, int depth) {
            List<Part> all = new ArrayList<>();
            int q = depth < 6 ? sign(p, "!") : -1;
            if (q >= 0) {
                for (Part unit : units(q, depth + 1)) {
                    all.add(new Part(unit.end, l -> 1 - unit.node.worth(l)));
                }
            }
            q = depth < 6 ? sign(p, "(") : -1;
            if (q >= 0) {
                for (Part condition : conditions(q, depth + 1)) {
                    int behind = sign(condition.end, ")");
                    if (behind >= 0) {
                        all.add(new Part(behind, condition.node));
                    }
                }
            }
            for (Part one : sums(p, depth)) {
                int s = sign(one.end, "=<>");
                if (s >= 0) {
                    for (Part other : sums(s, depth)) {
                        all.add(new Part(other.end, joined(text.charAt(s - 1), one.node, other.node)));
                    }
                }
            }
            return all;
        }

        List<Clause> clauses(int p) {
            List<Clause> all = new ArrayList<>();
            int q = sign(p, labels);
            if (q < 0) {
                return all;
            }
            char label = text.charAt(q - 1);
            int from = sign(q, ":");
            if (from < 0) {
                return all;
            }
            for (Part sum : sums(from, 0)) {
                all.add(new Clause(label, null, sum.node, sum.end));
            }
            for (Part condition : conditions(from, 0)) {
                int behind = sign(condition.end, "?");
                if (behind >= 0) {
                    for (Part sum : sums(behind, 0)) {
                        all.add(new Clause(label, condition.node, sum.node, sum.end));
                    }
                }
            }
            return all;
        }

        /** The clauses of the text; null if it has a fault. */
        List<Clause> read(int p, int count) {
            for (Clause clause : clauses(p)) {
                int q = sign(clause.end, ";");
                List<Clause> rest = q >= 0 ? read(q, count + 1) : null;
                if (q < 0 && skip(clause.end) == text.length()) {
                    rest = new ArrayList<>();
                }
                if (rest != null) {
                    rest.add(0, clause);
                    return rest;
                }
            }
            return null;
        }
    }

    static int faultOf(String text, boolean law) {
        Grammar grammar = new Grammar(text, law);
        return grammar.read(0, 0) != null ? NONE : grammar.far;
    }

    static Long worthOf(List<Clause> text, char label, long[] letters) {
        for (Clause clause : text) {
            if (clause.label == label && (clause.condition == null || clause.condition.worth(letters) == 1)) {
                return clause.sum.worth(letters);
            }
        }
        return null;
    }

    private final List<int[]> balls = new ArrayList<>();
    private final List<int[]> beams = new ArrayList<>();
    private final List<List<Clause>> laws = new ArrayList<>();
    private final List<Integer> rollOf = new ArrayList<>();
    private final List<List<Clause>> guesses = new ArrayList<>();
    private final List<int[]> pinned = new ArrayList<>();
    private final List<int[]> trials = new ArrayList<>();
    private final List<List<Integer>> sheets = new ArrayList<>();
    private String tape = "";

    private static boolean in(long v, long least, long greatest) {
        return least <= v && v <= greatest;
    }

    private static boolean has(List<?> list, int i) {
        return i >= 0 && i < list.size();
    }

    int ball(int size, int weight) {
        if (balls.size() == 8 || !in(size, 1, 50) || !in(weight, 1, 999)) {
            return NONE;
        }
        balls.add(new int[] {size, weight});
        return balls.size() - 1;
    }

    int beam(int length, int slope, int rough) {
        if (beams.size() == 6 || !in(length, 10, 12000) || !in(slope, 1, 100) || !in(rough, 0, 50)) {
            return NONE;
        }
        beams.add(new int[] {length, slope, rough});
        return beams.size() - 1;
    }

    int feed(int a, int b, int c, int d, int e) {
        StringBuilder more = new StringBuilder(tape);
        for (int number : new int[] {a, b, c, d, e}) {
            for (int part = 0; part < 4; part++) {
                char next = (char) (Integer.rotateLeft(number, 8 * (part + 1)) & 0xff);
                if (next != 0) {
                    more.append(next);
                }
            }
        }
        if (more.length() > 120) {
            return NONE;
        }
        tape = more.toString();
        return tape.length();
    }

    boolean end(int n) {
        if (n < 0 || n > tape.length()) {
            return false;
        }
        tape = tape.substring(0, n);
        return true;
    }

    int fault(int sort) {
        return sort != 0 && sort != 1 ? -2 : faultOf(tape, sort == 0);
    }

    int law() {
        List<Clause> read = new Grammar(tape, true).read(0, 0);
        if (read == null || laws.size() == 8) {
            return NONE;
        }
        laws.add(read);
        rollOf.add(1000);
        tape = "";
        return laws.size() - 1;
    }

    int guess() {
        List<Clause> read = new Grammar(tape, false).read(0, 0);
        if (read == null || guesses.size() == 8) {
            return NONE;
        }
        guesses.add(read);
        pinned.add(new int[] {0, 0});
        tape = "";
        return guesses.size() - 1;
    }

    boolean roll(int law, int v) {
        if (!has(laws, law) || !in(v, 0, 1000)) {
            return false;
        }
        rollOf.set(law, v);
        return true;
    }

    /** Ways and speeds after 0 .. 1,000 ticks. */
    private int[][] motion(int law, char label, int ball, int slope, int rough, int usual) {
        int[][] all = new int[2][1001];
        for (int t = 0; t < 1000; t++) {
            long[] l = new long[128];
            l['t'] = t;
            l['x'] = all[0][t];
            l['v'] = all[1][t];
            l['s'] = slope;
            l['r'] = rough;
            l['w'] = balls.get(ball)[1];
            l['z'] = balls.get(ball)[0];
            Long worth = worthOf(laws.get(law), label, l);
            long v = all[1][t] + (worth == null ? usual : worth);
            all[1][t + 1] = (int) Math.max(0, Math.min(10000, v));
            all[0][t + 1] = all[0][t] + all[1][t + 1];
        }
        return all;
    }

    private int[][] run(int law, int ball, int beam) {
        int[] b = beams.get(beam);
        return motion(law, 'g', ball, b[1], b[2], b[1] - b[2]);
    }

    private int[][] drop(int law, int ball) {
        return motion(law, 'd', ball, 100, 0, 10);
    }

    private static int clickIn(int[] ways, int place) {
        for (int t = 1; t <= 1000; t++) {
            if (ways[t] >= place) {
                return t;
            }
        }
        return NONE;
    }

    private boolean three(int law, int ball, int beam) {
        return has(laws, law) && has(balls, ball) && has(beams, beam);
    }

    int way(int law, int ball, int beam, int ticks) {
        return three(law, ball, beam) && in(ticks, 0, 1000) ? run(law, ball, beam)[0][ticks] : NONE;
    }

    int speed(int law, int ball, int beam, int ticks) {
        return three(law, ball, beam) && in(ticks, 0, 1000) ? run(law, ball, beam)[1][ticks] : NONE;
    }

    int click(int law, int ball, int beam, int place) {
        if (!three(law, ball, beam) || !in(place, 1, beams.get(beam)[0])) {
            return NONE;
        }
        return clickIn(run(law, ball, beam)[0], place);
    }

    int fall(int law, int ball, int height) {
        return has(laws, law) && has(balls, ball) && in(height, 1, 12000) ? clickIn(drop(law, ball)[0], height) : NONE;
    }

    int cup(int law, int bucket, int ticks) {
        if (!has(laws, law) || !in(bucket, 0, 100000) || !in(ticks, 0, 1000)) {
            return NONE;
        }
        long cup = 0;
        for (int t = 0; t < ticks; t++) {
            long[] l = new long[128];
            l['t'] = t;
            l['n'] = bucket - cup;
            Long worth = worthOf(laws.get(law), 'q', l);
            cup += Math.max(0, Math.min(bucket - cup, worth == null ? 10 : worth));
        }
        return (int) cup;
    }

    int trial(int kind, int ball, int beam, int what, int bucket, int cost, int slack) {
        if (trials.size() == 30 || !in(kind, 0, 2) || !has(balls, ball) || !has(beams, beam)) {
            return NONE;
        }
        boolean placed = kind == 2 ? in(what, 1, 12000) : in(what, 1, beams.get(beam)[0]);
        if (!placed || !in(cost, 1, 99) || !in(slack, 0, 50) || kind == 1 && !in(bucket, 0, 100000)) {
            return NONE;
        }
        trials.add(new int[] {kind, ball, beam, what, kind == 1 ? bucket : 0, cost, slack, NONE});
        return trials.size() - 1;
    }

    int told(int trial, int what) {
        if (!has(trials, trial) || !in(what, 0, 7)) {
            throw new NoSuchElementException();
        }
        return trials.get(trial)[what];
    }

    private int far(int law, int[] trial) {
        int[][] run = run(law, trial[1], trial[2]);
        int leaves = clickIn(run[0], beams.get(trial[2])[0]);
        int lands = clickIn(drop(law, trial[1])[0], trial[3]);
        return leaves == NONE || lands == NONE ? NONE : run[1][leaves] * lands;
    }

    int is(int law, int trial) {
        if (!has(laws, law) || !has(trials, trial)) {
            return NONE;
        }
        int[] of = trials.get(trial);
        if (of[0] == 2) {
            int far = far(law, of);
            return far == NONE ? NONE : (int) ((long) far * rollOf.get(law) / 1000);
        }
        int ticks = click(law, of[1], of[2], of[3]);
        return of[0] == 0 || ticks == NONE ? ticks : cup(law, of[4], ticks);
    }

    boolean write(int trial, int number) {
        if (!has(trials, trial) || !in(number, -1, 1000000)) {
            return false;
        }
        trials.get(trial)[7] = number;
        return true;
    }

    private Long guessed(int guess, int a, int b, int ball, int beam, int tick) {
        long[] l = new long[128];
        l['t'] = tick;
        l['s'] = beams.get(beam)[1];
        l['r'] = beams.get(beam)[2];
        l['w'] = balls.get(ball)[1];
        l['z'] = balls.get(ball)[0];
        l['a'] = a;
        l['b'] = b;
        return worthOf(guesses.get(guess), 'y', l);
    }

    int value(int guess, int a, int b, int ball, int beam, int tick) {
        if (!has(guesses, guess) || !in(a, 0, 30) || !in(b, 0, 30) || !has(balls, ball) || !has(beams, beam)) {
            return HIDDEN;
        }
        Long worth = in(tick, 0, 1000) ? guessed(guess, a, b, ball, beam, tick) : null;
        return worth == null ? HIDDEN : worth.intValue();
    }

    private boolean near(int guess, int a, int b, int[] trial, int tick) {
        Long worth = guessed(guess, a, b, trial[1], trial[2], tick);
        return worth != null && in(worth, trial[3] - trial[6], trial[3] + trial[6]);
    }

    private List<int[]> fitsOf(int guess) {
        List<int[]> fits = new ArrayList<>();
        for (int a = 0; a <= 30; a++) {
            for (int b = 0; b <= 30; b++) {
                boolean let = true;
                for (int[] trial : trials) {
                    if (trial[0] == 0 && in(trial[7], 1, 1000)) {
                        let = let && near(guess, a, b, trial, trial[7]);
                    }
                }
                if (let) {
                    fits.add(new int[] {a, b});
                }
            }
        }
        return fits;
    }

    private static int picked(List<int[]> pairs, int i) {
        if (i == NONE) {
            return pairs.size();
        }
        return has(pairs, i) ? 31 * pairs.get(i)[0] + pairs.get(i)[1] : NONE;
    }

    int fits(int guess, int i) {
        return has(guesses, guess) ? picked(fitsOf(guess), i) : NONE;
    }

    int span(int guess, int what) {
        if (!has(guesses, guess) || !in(what, 0, 3)) {
            return NONE;
        }
        List<int[]> fits = fitsOf(guess);
        if (what % 2 == 0) {
            return fits.stream().mapToInt(p -> p[what / 2]).min().orElse(NONE);
        }
        return fits.stream().mapToInt(p -> p[what / 2]).max().orElse(NONE);
    }

    int left() {
        int bits = 0;
        for (int i = 0; i < guesses.size(); i++) {
            bits += fitsOf(i).isEmpty() ? 0 : 1 << i;
        }
        return bits;
    }

    int parts(int one, int other, int ball, int beam, int ticks, int what) {
        if (!has(guesses, one) || !has(guesses, other) || !has(balls, ball) || !has(beams, beam)) {
            return NONE;
        }
        if (!in(ticks, 1, 1000) || !in(what, 0, 1)) {
            return NONE;
        }
        List<int[]> ofOne = fitsOf(one);
        List<int[]> ofOther = fitsOf(other);
        if (ofOne.isEmpty() || ofOther.isEmpty()) {
            return NONE;
        }
        long[] apart = new long[ticks + 1];
        long most = 0;
        for (int t = 1; t <= ticks; t++) {
            Long p = guessed(one, ofOne.get(0)[0], ofOne.get(0)[1], ball, beam, t);
            Long q = guessed(other, ofOther.get(0)[0], ofOther.get(0)[1], ball, beam, t);
            apart[t] = Math.abs((p == null ? 0 : p) - (q == null ? 0 : q));
            most = Math.max(most, apart[t]);
        }
        for (int t = 1; t <= ticks; t++) {
            if (apart[t] == most) {
                return what == 0 ? t : (int) most;
            }
        }
        throw new IllegalStateException("no tick parts most");
    }

    int worlds(int guess, int a, int b) {
        if (!has(guesses, guess) || !in(a, 0, 30) || !in(b, 0, 30)) {
            return NONE;
        }
        int bits = 0;
        for (int law = 0; law < laws.size(); law++) {
            boolean right = true;
            for (int[] trial : trials) {
                if (trial[0] == 0 && right) {
                    int tick = click(law, trial[1], trial[2], trial[3]);
                    right = tick != NONE && near(guess, a, b, trial, tick);
                }
            }
            bits += right ? 1 << law : 0;
        }
        return bits;
    }

    boolean pin(int guess, int a, int b) {
        if (!has(guesses, guess) || !in(a, 0, 30) || !in(b, 0, 30)) {
            return false;
        }
        pinned.set(guess, new int[] {a, b});
        return true;
    }

    private static boolean before(List<Integer> one, List<Integer> other) {
        for (int i = 0; i < one.size() && i < other.size(); i++) {
            if (!one.get(i).equals(other.get(i))) {
                return one.get(i) < other.get(i);
            }
        }
        throw new IllegalStateException("a set within another costs less");
    }

    int cheapest(int law, int what) {
        if (!has(laws, law) || !in(what, 0, 2)) {
            return NONE;
        }
        List<Integer> clicked = new ArrayList<>();
        for (int i = 0; i < trials.size() && clicked.size() < 10; i++) {
            if (trials.get(i)[0] == 0) {
                clicked.add(i);
            }
        }
        boolean[][] refutes = new boolean[clicked.size()][guesses.size()];
        for (int i = 0; i < clicked.size(); i++) {
            int[] trial = trials.get(clicked.get(i));
            int tick = click(law, trial[1], trial[2], trial[3]);
            for (int g = 0; g < guesses.size(); g++) {
                refutes[i][g] = tick != NONE && !near(g, pinned.get(g)[0], pinned.get(g)[1], trial, tick);
            }
        }
        List<Integer> best = null;
        int bestCost = 0;
        int bestLeft = 0;
        for (int set = 0; set < 1 << clicked.size(); set++) {
            List<Integer> chosen = new ArrayList<>();
            int cost = 0;
            boolean[] gone = new boolean[guesses.size()];
            for (int i = 0; i < clicked.size(); i++) {
                if ((set & 1 << i) != 0) {
                    chosen.add(clicked.get(i));
                    cost += trials.get(clicked.get(i))[5];
                    for (int g = 0; g < gone.length; g++) {
                        gone[g] |= refutes[i][g];
                    }
                }
            }
            int stay = 0;
            int last = NONE;
            for (int g = 0; g < gone.length; g++) {
                if (!gone[g]) {
                    stay++;
                    last = g;
                }
            }
            if (stay == 1 && (best == null || cost < bestCost || cost == bestCost && before(chosen, best))) {
                best = chosen;
                bestCost = cost;
                bestLeft = last;
            }
        }
        if (best == null) {
            return NONE;
        }
        return what == 0 ? best.stream().mapToInt(i -> 1 << i).sum() : what == 1 ? bestCost : bestLeft;
    }

    int odd(int law, int ball, int beam, int step, int k, int ear) {
        if (!three(law, ball, beam) || step < 1 || !in(k, 1, 6) || !in((long) step * k, 1, 1000) || !in(ear, 0, 100)) {
            return NONE;
        }
        int[] ways = run(law, ball, beam)[0];
        int odd = 0;
        for (int i = 1; i <= k; i++) {
            long next = ways[i * step] - ways[i * step - step];
            odd += in(next - (2L * i - 1) * ways[step], -ear, ear) ? 1 : 0;
        }
        return odd;
    }

    int ear(int law, int ball, int beam, int step, int i, int e, int what) {
        if (!three(law, ball, beam) || step < 1 || i < 1 || !in(e, 0, 100) || !in(what, 0, 1)) {
            return NONE;
        }
        if ((long) i * step + e > 1000) {
            return NONE;
        }
        int[] ways = run(law, ball, beam)[0];
        int answer = NONE;
        for (int place = 1; place <= beams.get(beam)[0]; place++) {
            int tick = clickIn(ways, place);
            if (tick != NONE && in(tick, i * step - e, i * step + e) && (what == 1 || answer == NONE)) {
                answer = place;
            }
        }
        return answer;
    }

    int sheet() {
        if (sheets.size() == 10) {
            return NONE;
        }
        sheets.add(new ArrayList<>());
        return sheets.size() - 1;
    }

    int number(int sheet, int v) {
        if (!has(sheets, sheet) || sheets.get(sheet).size() == 12 || !in(v, 0, 1000000)) {
            return NONE;
        }
        sheets.get(sheet).add(v);
        return sheets.get(sheet).size();
    }

    private boolean readable(int sheet, int guess, int ball, int beam, int step) {
        return has(sheets, sheet) && !sheets.get(sheet).isEmpty() && has(guesses, guess) && has(balls, ball)
                && has(beams, beam) && in(step, 1, 80);
    }

    private int worked(int sheet, int guess, int[] pair, int ball, int beam, int step) {
        int bits = 0;
        for (int i = 1; i <= sheets.get(sheet).size(); i++) {
            Long worth = guessed(guess, pair[0], pair[1], ball, beam, i * step);
            if (worth != null && worth == (long) sheets.get(sheet).get(i - 1)) {
                bits += 1 << i - 1;
            }
        }
        return bits;
    }

    int found(int sheet, int guess, int ball, int beam, int step, int i) {
        if (!readable(sheet, guess, ball, beam, step)) {
            return NONE;
        }
        List<int[]> found = new ArrayList<>();
        for (int p = 0; p < 961; p++) {
            int[] pair = {p / 31, p % 31};
            if (worked(sheet, guess, pair, ball, beam, step) == (1 << sheets.get(sheet).size()) - 1) {
                found.add(pair);
            }
        }
        return picked(found, i);
    }

    int most(int sheet, int guess, int ball, int beam, int step, int what) {
        if (!readable(sheet, guess, ball, beam, step) || !in(what, 0, 2)) {
            return NONE;
        }
        int[] best = null;
        int bits = 0;
        for (int p = 0; p < 961; p++) {
            int[] pair = {p / 31, p % 31};
            int now = worked(sheet, guess, pair, ball, beam, step);
            if (best == null || Integer.bitCount(now) > Integer.bitCount(bits)) {
                best = pair;
                bits = now;
            }
        }
        long off = 0;
        for (int i = 1; i <= sheets.get(sheet).size(); i++) {
            Long worth = guessed(guess, best[0], best[1], ball, beam, i * step);
            off += Math.abs(sheets.get(sheet).get(i - 1) - (worth == null ? 0 : worth));
        }
        return what == 0 ? 31 * best[0] + best[1] : what == 1 ? bits : (int) off;
    }

    private static long rows(int length, int e, long sum, Map<Long, Long> known) {
        if (sum < 0) {
            return 0;
        }
        if (length == 0) {
            return 1;
        }
        long key = length * 100000000L + sum;
        Long before = known.get(key);
        if (before == null) {
            before = 0L;
            for (int error = -e; error <= e; error++) {
                before += rows(length - 1, e, sum - Math.abs(error), known);
            }
            known.put(key, before);
        }
        return before;
    }

    long well(int sheet, int guess, int ball, int beam, int step, int e, int what) {
        if (!readable(sheet, guess, ball, beam, step) || !in(e, 0, 9) || !in(what, 0, 1)) {
            return NONE;
        }
        long off = what == 1 ? 1000 : Math.min(1000, most(sheet, guess, ball, beam, step, 2));
        return rows(sheets.get(sheet).size(), e, off, new HashMap<>());
    }

    int rolls(int law, int what) {
        if (!has(laws, law) || !in(what, 0, 1)) {
            return NONE;
        }
        List<int[]> thrown = new ArrayList<>();
        for (int[] trial : trials) {
            if (trial[0] == 2 && trial[7] != NONE && far(law, trial) != NONE) {
                thrown.add(new int[] {far(law, trial), trial[7], trial[6]});
            }
        }
        int answer = NONE;
        for (int roll = 0; roll <= 1000; roll++) {
            boolean lets = true;
            for (int[] one : thrown) {
                lets = lets && Math.abs((long) one[0] * roll / 1000 - one[1]) <= one[2];
            }
            if (lets && (what == 1 || answer == NONE)) {
                answer = roll;
            }
        }
        return answer;
    }

    int tower(int law, int one, int other, int height, int late, int later) {
        int p = fall(law, one, height);
        int q = fall(law, other, height);
        if (p == NONE || q == NONE || !in(late, 0, 1000) || !in(later, 0, 1000)) {
            return NONE;
        }
        int ahead = q + later - p - late;
        return ahead == 0 ? 0 : ahead > 0 ? 1 : 2;
    }

    int hands(int law, int one, int other, int height, int m, int what) {
        if (!in(m, 1, 50) || !in(what, 0, 2) || tower(law, one, other, height, 0, 0) == NONE) {
            return NONE;
        }
        int p = fall(law, one, height);
        int q = fall(law, other, height);
        int[] pairs = new int[3];
        for (int i = 0; i < m * m; i++) {
            int ahead = q + i % m - p - i / m;
            pairs[ahead == 0 ? 0 : ahead > 0 ? 1 : 2]++;
        }
        return pairs[what];
    }

    int drawn(int law, int ball, int one, int other, int ticks, int what) {
        if (!three(law, ball, one) || !has(beams, other) || !in(ticks, 0, 1000) || !in(what, 0, 1)) {
            return HIDDEN;
        }
        int p = beams.get(one)[1];
        int q = beams.get(other)[1];
        if (p == q) {
            return HIDDEN;
        }
        long first = way(law, ball, one, ticks);
        long second = way(law, ball, other, ticks);
        long drawn = first + (second - first) * (100 - p) / (q - p);
        return (int) (what == 0 ? drawn : drawn - drop(law, ball)[0][ticks]);
    }

    int count(int what) {
        switch (what) {
            case 0: return balls.size();
            case 1: return beams.size();
            case 2: return laws.size();
            case 3: return guesses.size();
            case 4: return trials.size();
            case 5: return (int) trials.stream().filter(t -> t[7] != NONE).count();
            case 6: return sheets.size();
            case 7: return sheets.stream().mapToInt(List::size).sum();
            case 8: return tape.length();
            default: return NONE;
        }
    }
}
