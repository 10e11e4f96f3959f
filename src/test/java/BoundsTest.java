/**
 * The bounds that the document names, sentence by sentence: the last input that is let and the first that is refused on
 * each side, what is empty and what is full, and that a refused call has changed nothing.
 */
public final class BoundsTest {
    private interface Edge {
        long on(GrooveHouse x, int v);
    }

    private static final int NONE = -1;
    private static final int HIDDEN = -100000000;
    private static final int NO = 0;
    private static final int YES = 1;
    private static int checks = 0;
    private static int wrong = 0;

    private static void check(boolean holds, int promise, String what) {
        checks++;
        if (!holds) {
            wrong++;
            System.out.println("promise " + promise + ": " + what);
        }
    }

    private static void due(int promise, String what, long got, long want) {
        check(got == want, promise, what + " answered " + got + ", due is " + want);
    }

    private static int bool(boolean b) {
        return b ? YES : NO;
    }

    private static void let(int promise, String what, Twins.Scene scene, Twins.Call call, long want) {
        due(promise, what, Twins.answer(Twins.house(scene), call), want);
    }

    private static void refused(int promise, String what, Twins.Scene scene, Twins.Call call, long want) {
        let(promise, what + " (refused)", scene, call, want);
        check(Twins.changesNothing(scene, call), promise, what + " was refused, but has changed something");
    }

    /** The least and the greatest input that are let, with their answers, and what the ones beyond answer. */
    private static void range(int promise, String what, Twins.Scene scene, Edge edge, int[] least, int[] greatest,
            long refusal) {
        let(promise, what + " " + least[0], scene, x -> edge.on(x, least[0]), least[1]);
        let(promise, what + " " + greatest[0], scene, x -> edge.on(x, greatest[0]), greatest[1]);
        int[] beyond = {least[0] - 1, greatest[0] + 1, Integer.MIN_VALUE, Integer.MAX_VALUE};
        for (int v : beyond) {
            refused(promise, what + " " + v, scene, x -> edge.on(x, v), refusal);
        }
    }

    private static void range(int promise, String what, Edge edge, int[] least, int[] greatest, long refusal) {
        range(promise, what, BoundsTest::furnish, edge, least, greatest, refusal);
    }

    private static int[] at(int input, int answer) {
        return new int[] {input, answer};
    }

    /**
     * By law 0 beam 0 has the ways 10 30 60 100, beam 1 16 48 96, and falling is as beam 0; by law 1 nothing moves; by
     * law 2 each way is the tick. Guess 0 has the fits (10, 30) .. (20, 0), guess 1 is worth something at tick 3 alone.
     */
    private static void furnish(GrooveHouse x) {
        x.ball(3, 7);
        x.ball(5, 20);
        x.beam(100, 12, 2);
        x.beam(12000, 20, 4);
        Texts.law(x, "q:n/10");
        Texts.law(x, "g:0;d:0");
        Texts.law(x, "g:t=0?1;g:0;d:t=0?1;d:0");
        Texts.guess(x, "y:a*t+b");
        Texts.guess(x, "y:t=3?60");
        x.trial(0, 0, 0, 60, 0, 5, 0);
        x.trial(1, 0, 0, 30, 100, 2, 0);
        x.trial(2, 0, 0, 60, 0, 3, 2);
        x.trial(0, 0, 0, 30, 0, 1, 50);
        x.write(0, 3);
        x.write(2, 85);
        x.roll(0, 714);
        x.pin(0, 20, 0);
        int sheet = x.sheet();
        x.number(sheet, 20);
        x.number(sheet, 40);
        x.number(sheet, 60);
        x.sheet();
        x.number(x.sheet(), 7);
        Texts.put(x, "g:t+5");
    }

    private static Twins.Scene with(Twins.Scene more) {
        return x -> {
            furnish(x);
            more.furnish(x);
        };
    }

    private static Twins.Scene times(int n, Twins.Call call) {
        return with(x -> {
            for (int i = 0; i < n; i++) {
                call.on(x);
            }
        });
    }

    /** A tape with so many bytes, a law as long as that is odd and more than two. */
    private static Twins.Scene tape(int bytes) {
        return with(x -> Texts.put(x, ("g:1" + "+1".repeat(60)).substring(0, bytes)));
    }

    /** Every call on an object of which nothing is told. */
    private static void nothingIsTold() {
        Twins.Scene empty = x -> { };
        for (int what = 0; what <= 8; what++) {
            int counted = what;
            let(1, "count(" + what + ")", empty, x -> x.count(counted), 0);
        }
        let(1, "left", empty, x -> x.left(), 0);
        let(1, "end(0)", empty, x -> bool(x.end(0)), YES);
        let(1, "fault(0)", empty, x -> x.fault(0), 0);
        let(1, "fault(1)", empty, x -> x.fault(1), 0);
        Twins.Call[] none = {
            x -> x.law(), x -> x.guess(), x -> x.way(0, 0, 0, 0), x -> x.speed(0, 0, 0, 0), x -> x.click(0, 0, 0, 1),
            x -> x.fall(0, 0, 1), x -> x.cup(0, 0, 0), x -> x.trial(0, 0, 0, 1, 0, 1, 0), x -> x.is(0, 0),
            x -> x.fits(0, NONE), x -> x.span(0, 0), x -> x.parts(0, 0, 0, 0, 1, 0), x -> x.worlds(0, 0, 0),
            x -> x.cheapest(0, 0), x -> x.odd(0, 0, 0, 1, 1, 0), x -> x.ear(0, 0, 0, 1, 1, 0, 0), x -> x.number(0, 0),
            x -> x.found(0, 0, 0, 0, 1, NONE), x -> x.most(0, 0, 0, 0, 1, 0), x -> x.well(0, 0, 0, 0, 1, 0, 0),
            x -> x.rolls(0, 0), x -> x.tower(0, 0, 0, 1, 0, 0), x -> x.hands(0, 0, 0, 1, 1, 0),
        };
        for (int i = 0; i < none.length; i++) {
            refused(1, "call " + i + " of an empty house", empty, none[i], NONE);
        }
        refused(1, "value", empty, x -> x.value(0, 0, 0, 0, 0, 0), HIDDEN);
        refused(1, "drawn", empty, x -> x.drawn(0, 0, 0, 1, 0, 0), HIDDEN);
        refused(1, "told", empty, x -> x.told(0, 0), Twins.THROWS);
        refused(1, "end(1)", empty, x -> bool(x.end(1)), NO);
        refused(1, "roll", empty, x -> bool(x.roll(0, 0)), NO);
        refused(1, "write", empty, x -> bool(x.write(0, 0)), NO);
        refused(1, "pin", empty, x -> bool(x.pin(0, 0, 0)), NO);
    }

    private static void balls() {
        range(2, "size", (x, v) -> x.ball(v, 1), at(1, 2), at(50, 2), NONE);
        range(2, "weight", (x, v) -> x.ball(1, v), at(1, 2), at(999, 2), NONE);
        let(2, "the eighth ball", times(5, x -> x.ball(1, 1)), x -> x.ball(1, 1), 7);
        refused(2, "a ninth ball", times(6, x -> x.ball(1, 1)), x -> x.ball(1, 1), NONE);
        Twins.Scene told = with(x -> Texts.law(x, "g:z*100+w"));
        let(2, "the least ball is kept", told, x -> x.way(3, x.ball(1, 1), 0, 1), 101);
        let(2, "the greatest ball is kept", told, x -> x.way(3, x.ball(50, 999), 0, 1), 5999);
    }

    private static void beams() {
        range(3, "length", (x, v) -> x.beam(v, 1, 0), at(10, 2), at(12000, 2), NONE);
        range(3, "slope", (x, v) -> x.beam(10, v, 0), at(1, 2), at(100, 2), NONE);
        range(3, "roughness", (x, v) -> x.beam(10, 1, v), at(0, 2), at(50, 2), NONE);
        let(3, "the sixth beam", times(3, x -> x.beam(10, 1, 1)), x -> x.beam(10, 1, 1), 5);
        refused(3, "a seventh beam", times(4, x -> x.beam(10, 1, 1)), x -> x.beam(10, 1, 1), NONE);
        Twins.Scene told = with(x -> Texts.law(x, "g:s*51+r"));
        let(3, "the least beam is kept", told, x -> x.way(3, 0, x.beam(10, 1, 0), 1), 51);
        let(3, "the greatest beam is kept", told, x -> x.way(3, 0, x.beam(12000, 100, 50), 1), 5150);
        let(3, "the shortest beam has an end", told, x -> x.click(3, 0, x.beam(10, 1, 0), 10), 1);
        refused(3, "behind it is no place", with(x -> x.beam(10, 1, 0)), x -> x.click(0, 0, 2, 11), NONE);
    }

    private static void tapes() {
        int four = 0x2b2b2b2b;
        let(4, "twenty bytes upon 100", tape(100), x -> x.feed(four, four, four, four, four), 120);
        refused(4, "twenty bytes upon 101", tape(101), x -> x.feed(four, four, four, four, four), NONE);
        let(4, "one byte upon 119", tape(119), x -> x.feed(0, 0, 0, 0, 1), 120);
        refused(4, "one byte upon 120", tape(120), x -> x.feed(0, 0, 0, 0, 1), NONE);
        refused(4, "two bytes upon 119", tape(119), x -> x.feed(1 << 24, 0, 0, 0, 1), NONE);
        let(4, "19 bytes and a byte of 0 upon 101", tape(101), x -> x.feed(four, four, 0x2b002b2b, four, four), 120);
        let(4, "no bytes upon 120", tape(120), x -> x.feed(0, 0, 0, 0, 0), 120);
        let(4, "no bytes upon none", tape(0), x -> x.feed(0, 0, 0, 0, 0), 0);
        let(4, "all bytes are 255", tape(0), x -> x.feed(-1, -1, -1, -1, -1), 20);
        let(4, "the highest bits alone", tape(0), x -> x.feed(Integer.MIN_VALUE, 0, 0, 0, 0), 1);
        range(5, "end of five bytes at", (x, v) -> bool(x.end(v)), at(0, YES), at(5, YES), NO);
        range(5, "end of no bytes at", tape(0), (x, v) -> bool(x.end(v)), at(0, YES), at(0, YES), NO);
        range(5, "end of 120 bytes at", tape(120), (x, v) -> bool(x.end(v)), at(0, YES), at(120, YES), NO);
        let(5, "an end at the length takes nothing", tape(120), x -> bool(x.end(120)) * x.count(8), 120);
        let(5, "an end one before it takes one", tape(120), x -> bool(x.end(119)) * x.count(8), 119);
        let(5, "an end at 0 takes all", tape(120), x -> bool(x.end(0)) + x.count(8), 1);
        let(5, "what an end took is gone", tape(119), x -> bool(x.end(3)) + x.feed(0x2b000000, 0, 0, 0, 0), 5);
        range(6, "sort", (x, v) -> x.fault(v), at(0, NONE), at(1, 0), -2);
    }

    private static int fault(String text, int sort) {
        GrooveHouse x = new GrooveHouse();
        Texts.put(x, text);
        return x.fault(sort);
    }

    private static void faultIs(String text, int want) {
        due(6, "the fault of '" + text + "'", fault(text, 0), want);
    }

    /** Behind the text just these bytes and blanks can go on; any other of all bytes is the fault. */
    private static void goesOn(int sort, String text, String bytes) {
        for (int b = 1; b < 256; b++) {
            int got = fault(text + (char) b, sort);
            boolean let = b == ' ' || bytes.indexOf(b) >= 0;
            boolean good = let ? got == NONE || got == text.length() + 1 : got == text.length();
            check(good, 6, "the fault of '" + text + "' and byte " + b + " is " + got);
        }
    }

    private static void goings(int sort, String label, String labels, String letters) {
        String digits = "0123456789";
        String atom = digits + letters + "[";
        String unit = atom + "!(";
        String[][] all = {
            {"", labels}, {" ", labels}, {label, ":"}, {label + ":", unit}, {label + ":1", digits + "*/+-=<>;"},
            {label + ":1 ", "*/+-=<>;"}, {label + ":1234", "*/+-=<>;"}, {label + ":t", "*/+-=<>;"},
            {label + ":t+", atom}, {label + ":t-", atom}, {label + ":t*", atom}, {label + ":t/", atom},
            {label + ":[", atom}, {label + ":[1", digits + "*/+-]"}, {label + ":[t]", "*/+-=<>;"},
            {label + ":t=", atom}, {label + ":t<", atom}, {label + ":t>", atom}, {label + ":t=1", digits + "*/+-&|?"},
            {label + ":t=1&", unit}, {label + ":t=1|", unit}, {label + ":t=1&t", "*/+-=<>"}, {label + ":t=1?", atom},
            {label + ":t=1?t", "*/+-;"}, {label + ":(", unit}, {label + ":(t", "*/+-=<>"}, {label + ":(t=t", "*/+-&|)"},
            {label + ":(t=1)", "&|?"}, {label + ":!", unit}, {label + ":!t", "*/+-=<>"}, {label + ":!t=t", "*/+-&|?"},
            {label + ":!(t=1)", "&|?"}, {label + ":t;", labels}, {label + ":t=1?t;", labels},
            {label + ":[[[[[[", digits + letters}, {label + ":((((((", digits + letters},
            {label + ":!!!!!!", digits + letters}, {label + ":(!(!(!", digits + letters}, {label + ":!!!!!", unit},
        };
        for (String[] one : all) {
            goesOn(sort, one[0], one[1]);
        }
    }

    private static void texts() {
        goings(0, "g", "gdq", "txvsrwzn");
        goings(1, "y", "y", "tsrwzab");
        String[] before = {"g:", "g:t+", "g:t*", "g:[", "g:t=", "g:t=1?", "g:!", "g:(", "g:t=1&", "g:t=1|", "g:1;d:"};
        for (String text : before) {
            int four = fault(text + "9999", 0);
            check(four == NONE || four == text.length() + 4, 6, "four digits behind " + text);
            faultIs(text + "99999", text.length() + 4);
            faultIs(text + "00000", text.length() + 4);
            faultIs(text + "9 9", text.length() + 2);
        }
        for (int outer = 0; outer <= 6; outer++) {
            for (int kinds = 0; kinds < 1 << outer; kinds++) {
                sixDeep(outer, kinds);
            }
        }
        faultIs("g:[[[[[[1]]]]]]+[[[[[[2]]]]]]*[[[[[[3]]]]]]", NONE);
        faultIs("g:((((((t=1))))))&((((((t=2))))))|!!!!!!t=3&[[[[[[t]]]]]]=4?[[[[[[5]]]]]];d:[[[[[[6]]]]]]", NONE);
        String longest = "g:1" + "+1".repeat(58) + "+";
        faultIs(longest.substring(0, 119), NONE);
        faultIs(longest, 120);
        faultIs("g:1;".repeat(29) + "g:1", NONE);
        faultIs("g:1;".repeat(30), 120);
        faultIs(" ".repeat(117) + "g:1", NONE);
        faultIs(" ".repeat(120), 120);
        faultIs("g:1" + " ".repeat(117), NONE);
        faultIs("", 0);
    }

    /** Six within one another, the outer ones ! or ( by the bits of kinds, the others [; and then a seventh. */
    private static void sixDeep(int outer, int kinds) {
        StringBuilder open = new StringBuilder("g:");
        StringBuilder close = new StringBuilder();
        for (int i = 0; i < outer; i++) {
            boolean round = (kinds >> i & 1) == 1;
            open.append(round ? '(' : '!');
            close.append(round ? ")" : "");
        }
        int inner = 6 - outer;
        open.append("[".repeat(inner));
        faultIs(open + "t" + "]".repeat(inner) + "=1" + close + "?1", NONE);
        for (String seventh : new String[] {"[", "(", "!"}) {
            faultIs(open + seventh + "t", 8);
        }
    }

    private static void lawsAndGuesses() {
        let(7, "the eighth law", times(4, x -> Texts.law(x, "g:t+5")), x -> Texts.law(x, "g:1"), 7);
        Twins.Scene eight = with(x -> {
            for (int i = 3; i < 8; i++) {
                Texts.law(x, "g:1");
            }
            Texts.put(x, "g:t+5");
        });
        refused(7, "a ninth law", eight, x -> x.law(), NONE);
        Twins.Scene eightGuesses = with(x -> {
            for (int i = 2; i < 8; i++) {
                Texts.guess(x, "y:a");
            }
            Texts.put(x, "y:b");
        });
        let(8, "the eighth guess", times(5, x -> Texts.guess(x, "y:a")), x -> Texts.guess(x, "y:a"), 7);
        refused(8, "a ninth guess", eightGuesses, x -> x.guess(), NONE);
        let(8, "eight laws leave room for guesses", eight, x -> Texts.guess(x, "y:a"), 2);
        let(7, "eight guesses leave room for laws", eightGuesses, x -> Texts.law(x, "g:1"), 3);
        refused(7, "a law with a fault at its end", with(x -> Texts.put(x, "g:1;")), x -> x.law(), NONE);
        refused(7, "a law of nothing", tape(0), x -> x.law(), NONE);
        refused(8, "a guess of nothing", tape(0), x -> x.guess(), NONE);
        refused(8, "a guess with a letter of laws", with(x -> Texts.put(x, "y:x")), x -> x.guess(), NONE);
        let(7, "a law takes the whole tape", tape(119), x -> x.law() + x.count(8), 3);
        let(8, "a guess takes the whole tape", with(x -> Texts.put(x, "y:b")), x -> x.guess() + x.count(8), 2);
        range(9, "law", (x, v) -> bool(x.roll(v, 5)), at(0, YES), at(2, YES), NO);
        range(9, "roll", (x, v) -> bool(x.roll(0, v)), at(0, YES), at(1000, YES), NO);
        let(9, "roll 0", BoundsTest::furnish, x -> bool(x.roll(0, 0)) + x.is(0, 2), 1);
        let(9, "roll 1,000", BoundsTest::furnish, x -> bool(x.roll(0, 1000)) * x.is(0, 2), 120);
        let(9, "1,000 at first", BoundsTest::furnish, x -> x.is(2, 2), 60);
    }

    /** Numbers are within a million on both sides behind each sign, and / cuts. */
    private static void worth(String sum, int want) {
        let(19, sum, x -> {
            x.ball(1, 1);
            x.beam(10, 1, 1);
            Texts.guess(x, "y:" + sum);
        }, x -> x.value(0, 30, 0, 0, 0, 1000), want);
    }

    private static void worths() {
        Object[][] all = {
            {"1000*1000", 1000000}, {"1000*1000+1", 1000000}, {"1000*1000-1", 999999}, {"1000*1000+1-1", 999999},
            {"1001*1000", 1000000}, {"1001*1000-1", 999999}, {"9999*9999", 1000000}, {"t*t+1-t*t", 0},
            {"0-1000*1000", -1000000}, {"0-1000*1000-1", -1000000}, {"0-1000*1000-1+1", -999999},
            {"[0-1001]*1000", -1000000}, {"[0-1001]*1000+1", -999999}, {"[0-1000]*1000*[0-1]", 1000000},
            {"[0-9999]*9999*9999", -1000000}, {"1000*1000*9999/9999", 100}, {"9999*101/1000", 1000},
            {"7/0", 0}, {"0/0", 0}, {"[0-7]/0", 0}, {"7/[a-30]", 0}, {"7/2", 3}, {"[0-7]/2", -3}, {"7/[0-2]", -3},
            {"[0-7]/[0-2]", 3}, {"1/2", 0}, {"[0-1]/2", 0}, {"[0-1000*1000]/[0-1]", 1000000}, {"0000", 0},
            {"9999", 9999}, {"0009", 9}, {"b", 0}, {"a", 30}, {"t", 1000},
            {"1000*1000=1000*1001?1;y:2", 1}, {"1<1?1;y:2", 2}, {"1>1?1;y:2", 2}, {"0<1?1;y:2", 1}, {"1>0?1;y:2", 1},
            {"0-1<0?1;y:2", 1}, {"0=0-0?1;y:2", 1}, {"1=2?1;y:1=1?3;y:4", 3}, {"1=2?1", HIDDEN}, {"!1=1?1", HIDDEN},
        };
        for (Object[] one : all) {
            worth((String) one[0], (Integer) one[1]);
        }
    }

    private static void runs() {
        range(10, "law", (x, v) -> x.way(v, 0, 0, 3), at(0, 60), at(2, 3), NONE);
        range(10, "ball", (x, v) -> x.way(0, v, 0, 3), at(0, 60), at(1, 60), NONE);
        range(10, "beam", (x, v) -> x.way(0, 0, v, 3), at(0, 60), at(1, 96), NONE);
        range(10, "ticks", (x, v) -> x.way(0, 0, 0, v), at(0, 0), at(1000, 5005000), NONE);
        range(11, "law", (x, v) -> x.speed(v, 0, 0, 3), at(0, 30), at(2, 1), NONE);
        range(11, "ball", (x, v) -> x.speed(0, v, 0, 3), at(0, 30), at(1, 30), NONE);
        range(11, "beam", (x, v) -> x.speed(0, 0, v, 3), at(0, 30), at(1, 48), NONE);
        range(11, "ticks", (x, v) -> x.speed(0, 0, 0, v), at(0, 0), at(1000, 10000), NONE);
        Object[][] speeds = {
            {"g:9999", 1, 9999}, {"g:9999+1", 1, 10000}, {"g:9999+2", 1, 10000}, {"g:9999*9999", 1, 10000},
            {"g:t=0?9999;g:1", 2, 10000}, {"g:t=0?9999;g:1", 3, 10000}, {"g:t=0?9999;g:2", 2, 10000},
            {"g:t=0?9999+1;g:0-1", 2, 9999}, {"g:0-1", 1, 0}, {"g:t=0?5;g:0-5", 2, 0}, {"g:t=0?5;g:0-4", 2, 1},
            {"g:t=0?5;g:0-6", 2, 0}, {"g:t=0?5;g:t=1?0-6;g:1", 3, 1}, {"g:0-9999*9999", 1000, 0}, {"g:0", 1000, 0},
            {"g:v=10*1000?0-1;g:9999+1", 4, 9999}, {"g:x>1000*1000?0;g:9999+1", 101, 10000},
            {"g:x=1000*1000?0-1;g:9999+1", 101, 9999}, {"g:t=999?7;g:0", 1000, 7}, {"g:t=1000?7;g:0", 1000, 0},
            {"g:n+1", 1, 1},
        };
        for (Object[] s : speeds) {
            Twins.Scene scene = with(x -> Texts.law(x, (String) s[0]));
            let(11, "speed by " + s[0], scene, x -> x.speed(3, 0, 0, (Integer) s[1]), (Integer) s[2]);
        }
        let(10, "the farthest way", with(x -> Texts.law(x, "g:9999+1")), x -> x.way(3, 0, 0, 1000), 10000000);
        let(10, "slope less roughness below 0", with(x -> x.beam(10, 1, 50)), x -> x.way(0, 0, 2, 1000), 0);
        let(10, "slope less roughness 0", with(x -> x.beam(10, 50, 50)), x -> x.way(0, 0, 2, 1000), 0);
        let(10, "slope less roughness 1", with(x -> x.beam(10, 50, 49)), x -> x.way(0, 0, 2, 1), 1);
    }

    private static void clicks() {
        range(12, "law", (x, v) -> x.click(v, 0, 0, 60), at(0, 3), at(2, 60), NONE);
        range(12, "ball", (x, v) -> x.click(0, v, 0, 60), at(0, 3), at(1, 3), NONE);
        range(12, "beam", (x, v) -> x.click(0, 0, v, 60), at(0, 3), at(1, 3), NONE);
        range(12, "place", (x, v) -> x.click(0, 0, 0, v), at(1, 1), at(100, 4), NONE);
        range(12, "place on the longest", (x, v) -> x.click(0, 0, 1, v), at(1, 1), at(12000, 39), NONE);
        let(12, "the way is that", BoundsTest::furnish, x -> x.click(0, 0, 0, 30), 2);
        let(12, "the way is one less", BoundsTest::furnish, x -> x.click(0, 0, 0, 31), 3);
        let(12, "in the last tick", BoundsTest::furnish, x -> x.click(2, 0, 1, 1000), 1000);
        refused(12, "one tick too late", BoundsTest::furnish, x -> x.click(2, 0, 1, 1001), NONE);
        refused(12, "never", BoundsTest::furnish, x -> x.click(1, 0, 1, 1), NONE);
        range(13, "law", (x, v) -> x.fall(v, 0, 60), at(0, 3), at(2, 60), NONE);
        range(13, "ball", (x, v) -> x.fall(0, v, 60), at(0, 3), at(1, 3), NONE);
        range(13, "height", (x, v) -> x.fall(0, 0, v), at(1, 1), at(12000, 49), NONE);
        let(13, "in the last tick", BoundsTest::furnish, x -> x.fall(2, 0, 1000), 1000);
        refused(13, "one tick too late", BoundsTest::furnish, x -> x.fall(2, 0, 1001), NONE);
        refused(13, "never", BoundsTest::furnish, x -> x.fall(1, 0, 1), NONE);
        let(13, "s 100, r 0", with(x -> Texts.law(x, "d:s=100&r=0&n=0?5;d:0")), x -> x.fall(3, 0, 5), 1);
        let(13, "10,000 at most", with(x -> Texts.law(x, "d:t=0?9999*9999;d:0")), x -> x.fall(3, 0, 10001), 2);
        let(13, "10,000 at most", with(x -> Texts.law(x, "d:t=0?9999*9999;d:0")), x -> x.fall(3, 0, 10000), 1);
    }

    private static void cups() {
        range(14, "law", (x, v) -> x.cup(v, 100, 2), at(0, 19), at(2, 20), NONE);
        range(14, "bucket", (x, v) -> x.cup(0, v, 1), at(0, 0), at(100000, 10000), NONE);
        range(14, "ticks", (x, v) -> x.cup(0, 100, v), at(0, 0), at(1000, 91), NONE);
        Object[][] flows = {
            {"q:n", 7, 1, 7}, {"q:n+1", 7, 1, 7}, {"q:n-1", 7, 1, 6}, {"q:0-1", 7, 1000, 0}, {"q:0", 7, 1000, 0},
            {"q:1", 1000, 1000, 1000}, {"q:1", 1001, 1000, 1000}, {"q:9999*9999", 100000, 1, 100000},
            {"q:n=0?5;q:n", 7, 1000, 7}, {"q:t=999?1;q:0", 7, 1000, 1}, {"q:t=1000?1;q:0", 7, 1000, 0},
            {"g:1", 9, 1, 9}, {"g:1", 10, 1, 10}, {"g:1", 11, 1, 10}, {"q:x+v+s+r+w+z", 7, 1000, 0},
        };
        for (Object[] f : flows) {
            Twins.Scene scene = with(x -> Texts.law(x, (String) f[0]));
            let(14, "cup by " + f[0], scene, x -> x.cup(3, (Integer) f[1], (Integer) f[2]), (Integer) f[3]);
        }
    }

    private static void trials() {
        range(15, "kind", (x, v) -> x.trial(v, 0, 0, 5, 0, 1, 0), at(0, 4), at(2, 4), NONE);
        range(15, "ball", (x, v) -> x.trial(0, v, 0, 5, 0, 1, 0), at(0, 4), at(1, 4), NONE);
        range(15, "beam", (x, v) -> x.trial(0, 0, v, 5, 0, 1, 0), at(0, 4), at(1, 4), NONE);
        range(15, "place of a clicked one", (x, v) -> x.trial(0, 0, 0, v, 0, 1, 0), at(1, 4), at(100, 4), NONE);
        range(15, "place of a cupped one", (x, v) -> x.trial(1, 0, 0, v, 0, 1, 0), at(1, 4), at(100, 4), NONE);
        range(15, "place on the longest", (x, v) -> x.trial(0, 0, 1, v, 0, 1, 0), at(1, 4), at(12000, 4), NONE);
        range(15, "height", (x, v) -> x.trial(2, 0, 0, v, 0, 1, 0), at(1, 4), at(12000, 4), NONE);
        range(15, "bucket", (x, v) -> x.trial(1, 0, 0, 5, v, 1, 0), at(0, 4), at(100000, 4), NONE);
        range(15, "cost", (x, v) -> x.trial(0, 0, 0, 5, 0, v, 0), at(1, 4), at(99, 4), NONE);
        range(15, "slack", (x, v) -> x.trial(0, 0, 0, 5, 0, 1, v), at(0, 4), at(50, 4), NONE);
        for (int bucket : new int[] {-1, 100001, 7, Integer.MIN_VALUE, Integer.MAX_VALUE}) {
            let(15, "the bucket of a clicked one", BoundsTest::furnish,
                    x -> x.told(x.trial(0, 0, 0, 5, bucket, 1, 0), 4), 0);
            let(15, "the bucket of a thrown one", BoundsTest::furnish,
                    x -> x.told(x.trial(2, 0, 0, 5, bucket, 1, 0), 4), 0);
        }
        let(15, "the thirtieth", times(25, x -> x.trial(0, 0, 0, 5, 0, 1, 0)), x -> x.trial(2, 1, 1, 5, 0, 1, 0), 29);
        refused(15, "one more", times(26, x -> x.trial(0, 0, 0, 5, 0, 1, 0)), x -> x.trial(0, 0, 0, 5, 0, 1, 0), NONE);
        range(16, "trial", (x, v) -> x.told(v, 0), at(0, 0), at(3, 0), Twins.THROWS);
        range(16, "what", (x, v) -> x.told(0, v), at(0, 0), at(7, 3), Twins.THROWS);
        let(16, "of one that is not written", BoundsTest::furnish, x -> x.told(1, 7), NONE);
        Twins.Scene thirty = times(26, x -> x.trial(0, 0, 0, 5, 0, 9, 0));
        range(16, "trial of thirty", thirty, (x, v) -> x.told(v, 5), at(0, 5), at(29, 9), Twins.THROWS);
    }

    private static void truths() {
        range(17, "law", (x, v) -> x.is(v, 0), at(0, 3), at(2, 60), NONE);
        range(17, "trial", (x, v) -> x.is(0, v), at(0, 3), at(3, 2), NONE);
        for (int i = 0; i < 4; i++) {
            int trial = i;
            refused(17, "no click of trial " + i, BoundsTest::furnish, x -> x.is(1, trial), NONE);
        }
        Twins.Scene slow = with(x -> {
            Texts.law(x, "g:t=0?1;g:0");
            Texts.law(x, "d:0");
            x.beam(1000, 9, 0);
            x.beam(1001, 9, 0);
            x.trial(2, 0, 2, 10, 0, 1, 0);
            x.trial(2, 0, 3, 10, 0, 1, 0);
            x.trial(2, 0, 0, 1000, 0, 1, 0);
            x.trial(2, 0, 0, 1001, 0, 1, 0);
        });
        let(17, "it leaves the beam in the last tick", slow, x -> x.is(3, 4), 1);
        refused(17, "it leaves the beam too late", slow, x -> x.is(3, 5), NONE);
        let(17, "it falls until the last tick", slow, x -> x.is(2, 6), 1000);
        refused(17, "it falls too long", slow, x -> x.is(2, 7), NONE);
        refused(17, "it leaves the beam, but never falls", slow, x -> x.is(4, 2), NONE);
        Twins.Scene fast = with(x -> {
            Texts.law(x, "g:9999*9999;d:t=0?1;d:0");
            x.trial(2, 0, 0, 1000, 0, 1, 0);
        });
        let(17, "as far as may be", fast, x -> x.is(3, 4), 10000000);
        let(17, "as far as may be, but rolled", fast, x -> bool(x.roll(3, 999)) * x.is(3, 4), 9990000);
        let(17, "cut just below 1", with(x -> x.roll(0, 8)), x -> x.is(0, 2), 0);
        let(17, "cut just above 1", with(x -> x.roll(0, 9)), x -> x.is(0, 2), 1);
    }

    private static void writings() {
        range(18, "trial", (x, v) -> bool(x.write(v, 5)), at(0, YES), at(3, YES), NO);
        range(18, "number", (x, v) -> bool(x.write(0, v)), at(NONE, YES), at(1000000, YES), NO);
        let(18, "0 is written", BoundsTest::furnish, x -> bool(x.write(1, 0)) * x.count(5) + x.told(1, 7), 3);
        let(18, "a million is written", BoundsTest::furnish, x -> bool(x.write(1, 1000000)) * x.told(1, 7), 1000000);
        let(18, "not any more", BoundsTest::furnish, x -> bool(x.write(0, NONE)) * x.count(5), 1);
        let(18, "it was not before", BoundsTest::furnish, x -> bool(x.write(1, NONE)) * x.count(5), 2);
        let(18, "twice is once", BoundsTest::furnish, x -> bool(x.write(0, 9)) * x.count(5), 2);
        let(18, "the thirtieth", times(26, x -> x.trial(0, 0, 0, 5, 0, 1, 0)), x -> bool(x.write(29, 5)), YES);
        refused(18, "one more", times(26, x -> x.trial(0, 0, 0, 5, 0, 1, 0)), x -> bool(x.write(30, 5)), NO);
    }

    private static void values() {
        range(19, "guess", (x, v) -> x.value(v, 1, 2, 0, 0, 3), at(0, 5), at(1, 60), HIDDEN);
        range(19, "a", (x, v) -> x.value(0, v, 2, 0, 0, 3), at(0, 2), at(30, 92), HIDDEN);
        range(19, "b", (x, v) -> x.value(0, 1, v, 0, 0, 3), at(0, 3), at(30, 33), HIDDEN);
        range(19, "ball", (x, v) -> x.value(0, 1, 2, v, 0, 3), at(0, 5), at(1, 5), HIDDEN);
        range(19, "beam", (x, v) -> x.value(0, 1, 2, 0, v, 3), at(0, 5), at(1, 5), HIDDEN);
        range(19, "tick", (x, v) -> x.value(0, 1, 2, 0, 0, v), at(0, 2), at(1000, 1002), HIDDEN);
        refused(19, "no worth before", BoundsTest::furnish, x -> x.value(1, 0, 0, 0, 0, 2), HIDDEN);
        refused(19, "no worth behind", BoundsTest::furnish, x -> x.value(1, 0, 0, 0, 0, 4), HIDDEN);
    }

    /** A guess of "y:a" and a trial at place 20 with a slack of 3, written with so much: how many fits. */
    private static void written(int number, int want) {
        let(20, "fits by a trial that is written with " + number, with(x -> {
            x.write(0, NONE);
            Texts.guess(x, "y:a");
            x.trial(0, 0, 0, 20, 0, 1, 3);
            x.write(4, number);
        }), x -> x.fits(2, NONE), want);
    }

    private static void fits() {
        range(20, "guess", (x, v) -> x.fits(v, NONE), at(0, 11), at(1, 961), NONE);
        range(20, "i", (x, v) -> x.fits(0, v), at(NONE, 11), at(10, 620), NONE);
        range(20, "i of all", (x, v) -> x.fits(1, v), at(NONE, 961), at(960, 960), NONE);
        written(NONE, 961);
        written(0, 961);
        written(1, 217);
        written(1000, 217);
        written(1001, 961);
        written(1000000, 961);
        Twins.Scene none = with(x -> x.write(0, 4));
        let(20, "no fits", none, x -> x.fits(1, NONE), 0);
        let(20, "asked before and behind", BoundsTest::furnish,
                x -> 1000 * x.fits(1, NONE) + bool(x.write(0, 4)) * x.fits(1, NONE), 961000);
        let(20, "asked before and behind it is not written any more", none,
                x -> 1000 * x.fits(1, NONE) + bool(x.write(0, NONE)) * x.fits(1, NONE), 961);
        let(20, "one of a few asked before", none,
                x -> 1000 * (x.fits(1, 0) + 1) + bool(x.write(0, 3)) * x.fits(1, 960), 960);
        refused(20, "the first of none", none, x -> x.fits(1, 0), NONE);
        range(21, "guess", (x, v) -> x.span(v, 0), at(0, 10), at(1, 0), NONE);
        range(21, "what", (x, v) -> x.span(0, v), at(0, 10), at(3, 30), NONE);
        for (int what = 0; what < 4; what++) {
            int of = what;
            refused(21, "no fits", none, x -> x.span(1, of), NONE);
        }
        Twins.Scene slack = with(x -> {
            x.write(0, NONE);
            Texts.guess(x, "y:a*10");
            Texts.guess(x, "y:b");
            x.trial(0, 0, 0, 60, 0, 1, 50);
            x.trial(0, 0, 0, 20, 0, 1, 3);
        });
        let(21, "the least within 50 of 60", slack, x -> bool(x.write(4, 1)) * x.span(2, 0), 1);
        let(21, "the greatest within 50 of 60", slack, x -> bool(x.write(4, 1)) * x.span(2, 1), 11);
        let(21, "the least within 3 of 20", slack, x -> bool(x.write(5, 1)) * x.span(3, 2), 17);
        let(21, "the greatest within 3 of 20", slack, x -> bool(x.write(5, 1)) * x.span(3, 3), 23);
        let(22, "all of two", BoundsTest::furnish, x -> x.left(), 3);
        let(22, "the second has none", none, x -> x.left(), 1);
        let(22, "all of eight", times(6, x -> Texts.guess(x, "y:60")), x -> x.left(), 255);
        let(22, "the last of eight", with(x -> {
            x.write(3, 2);
            x.write(0, 100);
            for (int i = 2; i < 8; i++) {
                Texts.guess(x, i == 7 ? "y:60" : "y:59");
            }
        }), x -> x.left(), 128);
    }

    private static void parts() {
        range(23, "one", (x, v) -> x.parts(v, 1, 0, 0, 5, 0), at(0, 5), at(1, 1), NONE);
        range(23, "the other", (x, v) -> x.parts(0, v, 0, 0, 5, 0), at(0, 1), at(1, 5), NONE);
        range(23, "ball", (x, v) -> x.parts(0, 1, v, 0, 5, 0), at(0, 5), at(1, 5), NONE);
        range(23, "beam", (x, v) -> x.parts(0, 1, 0, v, 5, 0), at(0, 5), at(1, 5), NONE);
        range(23, "ticks", (x, v) -> x.parts(0, 1, 0, 0, v, 0), at(1, 1), at(1000, 1000), NONE);
        range(23, "what", (x, v) -> x.parts(0, 1, 0, 0, 5, v), at(0, 5), at(1, 80), NONE);
        Twins.Scene none = with(x -> x.write(0, 4));
        refused(23, "one has no fits", none, x -> x.parts(1, 0, 0, 0, 5, 0), NONE);
        refused(23, "the other has no fits", none, x -> x.parts(0, 1, 0, 0, 5, 0), NONE);
        Twins.Scene free = x -> {
            x.ball(1, 1);
            x.beam(10, 1, 1);
            Texts.guess(x, "y:t=1?9999*9999;y:t=2?0-9999*9999;y:0");
            Texts.guess(x, "y:t=1?0-9999*9999;y:t=2?9999*9999;y:t<4?0");
        };
        let(23, "the farthest apart", free, x -> x.parts(0, 1, 0, 0, 1000, 1), 2000000);
        let(23, "of several the first", free, x -> x.parts(0, 1, 0, 0, 1000, 0), 1);
        let(23, "never apart: the first", free, x -> x.parts(0, 0, 0, 0, 1000, 0), 1);
        let(23, "never apart: 0", free, x -> x.parts(0, 0, 0, 0, 1000, 1), 0);
    }

    private static void worlds() {
        range(24, "guess", (x, v) -> x.worlds(v, 20, 0), at(0, 1), at(1, 0), NONE);
        range(24, "a", (x, v) -> x.worlds(0, v, 30), at(0, 0), at(30, 0), NONE);
        range(24, "b", (x, v) -> x.worlds(0, 10, v), at(0, 0), at(30, 1), NONE);
        Twins.Scene eight = x -> {
            x.ball(1, 1);
            x.beam(100, 10, 0);
            for (int i = 0; i < 8; i++) {
                Texts.law(x, i == 7 ? "g:0" : "g:10");
            }
            Texts.guess(x, "y:a+b");
        };
        let(24, "eight laws without trials", eight, x -> x.worlds(0, 0, 0), 255);
        Twins.Scene slack = x -> {
            eight.furnish(x);
            x.trial(0, 0, 0, 30, 0, 1, 7);
        };
        int[][] pairs = {{22, 0}, {23, 127}, {37, 127}, {38, 0}};
        for (int[] p : pairs) {
            let(24, "30 within 7 of " + p[0], slack, x -> x.worlds(0, 20, p[0] - 20), p[1]);
        }
        range(25, "guess", (x, v) -> bool(x.pin(v, 1, 1)), at(0, YES), at(1, YES), NO);
        range(25, "a", (x, v) -> bool(x.pin(0, v, 1)), at(0, YES), at(30, YES), NO);
        range(25, "b", (x, v) -> bool(x.pin(0, 1, v)), at(0, YES), at(30, YES), NO);
        Twins.Scene sixty = with(x -> Texts.guess(x, "y:a+b"));
        let(25, "0 and 0 at first, refuted by trial 0", sixty, x -> x.cheapest(0, 0), 8 + 1);
        let(25, "30 and 30", sixty, x -> bool(x.pin(2, 30, 30)) * x.cheapest(0, 0), NONE);
        let(25, "30 and 30, and another for guess 0", sixty,
                x -> bool(x.pin(2, 30, 30)) * bool(x.pin(0, 0, 0)) * x.cheapest(0, 2), 2);
        let(25, "the latest pair", sixty,
                x -> bool(x.pin(2, 30, 30)) * bool(x.pin(2, 30, 29)) * bool(x.pin(0, 0, 0)) * x.cheapest(0, 2), 1);
    }

    /** Twenty thrown trials between ten clicked ones, of which the tenth alone parts the guesses; its number is 29. */
    private static void tenClicked(GrooveHouse x) {
        x.ball(1, 1);
        x.beam(100, 10, 0);
        Texts.law(x, "g:10");
        Texts.law(x, "g:0");
        Texts.guess(x, "y:t=2?0;y:10");
        Texts.guess(x, "y:t=2?30;y:10");
        for (int i = 0; i < 9; i++) {
            x.trial(2, 0, 0, 5, 0, 1, 0);
            x.trial(0, 0, 0, 10, 0, 1, 0);
            x.trial(1, 0, 0, 30, 5, 1, 0);
        }
        x.trial(2, 0, 0, 5, 0, 1, 0);
    }

    private static void cheapest() {
        range(26, "law", with(x -> Texts.law(x, "q:1")), (x, v) -> x.cheapest(v, 0), at(0, 8), at(3, 8), NONE);
        range(26, "what", (x, v) -> x.cheapest(0, v), at(0, 8), at(2, 0), NONE);
        refused(26, "a law in which nothing clicks", BoundsTest::furnish, x -> x.cheapest(1, 0), NONE);
        refused(26, "nine trials that part nothing", BoundsTest::tenClicked, x -> x.cheapest(0, 0), NONE);
        Twins.Scene tenth = x -> {
            tenClicked(x);
            x.trial(2, 0, 0, 5, 0, 1, 0);
            x.trial(0, 0, 0, 30, 0, 99, 0);
        };
        let(26, "the tenth parts them", tenth, x -> x.cheapest(0, 0), 1 << 29);
        let(26, "its cost", tenth, x -> x.cheapest(0, 1), 99);
        let(26, "the guess that is left", tenth, x -> x.cheapest(0, 2), 1);
        refused(26, "an eleventh does not count", x -> {
            tenClicked(x);
            x.trial(0, 0, 0, 10, 0, 1, 0);
            x.trial(0, 0, 0, 30, 0, 1, 0);
        }, x -> x.cheapest(0, 0), NONE);
        let(26, "one guess without trials", x -> {
            Texts.law(x, "g:1");
            Texts.guess(x, "y:1");
        }, x -> x.cheapest(0, 0) + x.cheapest(0, 1) + x.cheapest(0, 2), 0);
        refused(26, "no guess", x -> Texts.law(x, "g:1"), x -> x.cheapest(0, 0), NONE);
        for (int sign = -1; sign <= 1; sign += 2) {
            slackOfCheapest(30 + sign * 50, 1 << 3);
            slackOfCheapest(30 + sign * 51, NONE);
        }
        allSevenAreNeeded();
    }

    /** Trial 3 is at 30 with a slack of 50: it lets a guess up to 50 off and refutes guess 1, which has no worth. */
    private static void slackOfCheapest(int worth, int want) {
        String sum = worth < 0 ? "0-" + -worth : "" + worth;
        let(26, "a guess of " + worth, x -> {
            x.ball(1, 1);
            x.beam(100, 10, 0);
            Texts.law(x, "g:10");
            Texts.guess(x, "y:" + sum);
            Texts.guess(x, "y:t=3?60");
            for (int i = 0; i < 3; i++) {
                x.trial(2, 0, 0, 5, 0, 1, 0);
            }
            x.trial(0, 0, 0, 30, 0, 1, 50);
        }, x -> x.cheapest(0, 0), want);
    }

    /** Eight guesses, of which each of seven is wrong at one tick of its own. */
    private static void allSevenAreNeeded() {
        Twins.Scene scene = x -> {
            x.ball(1, 1);
            x.beam(100, 10, 0);
            Texts.law(x, "g:t=0?10;g:0");
            for (int i = 1; i <= 8; i++) {
                Texts.guess(x, "y:t=" + i + "?0;y:t*10");
                x.trial(0, 0, 0, 10 * i, 0, 99, 0);
            }
        };
        let(26, "the lowest seven of eight", scene, x -> x.cheapest(0, 0), 127);
        let(26, "their cost", scene, x -> x.cheapest(0, 1), 7 * 99);
        let(26, "the last guess is left", scene, x -> x.cheapest(0, 2), 7);
    }

    private static void odds() {
        range(27, "law", (x, v) -> x.odd(v, 0, 0, 1, 4, 0), at(0, 1), at(2, 1), NONE);
        range(27, "ball", (x, v) -> x.odd(0, v, 0, 1, 4, 0), at(0, 1), at(1, 1), NONE);
        range(27, "beam", (x, v) -> x.odd(0, 0, v, 1, 4, 0), at(0, 1), at(1, 1), NONE);
        range(27, "step of one string", (x, v) -> x.odd(0, 0, 0, v, 1, 0), at(1, 1), at(1000, 1), NONE);
        range(27, "step of two strings", (x, v) -> x.odd(1, 0, 0, v, 2, 0), at(1, 2), at(500, 2), NONE);
        range(27, "step of six strings", (x, v) -> x.odd(1, 0, 0, v, 6, 0), at(1, 6), at(166, 6), NONE);
        range(27, "k", (x, v) -> x.odd(0, 0, 0, 1, v, 100), at(1, 1), at(6, 6), NONE);
        range(27, "k by steps of 200", (x, v) -> x.odd(1, 0, 0, 200, v, 0), at(1, 1), at(5, 5), NONE);
        range(27, "ear", (x, v) -> x.odd(0, 0, 0, 1, 3, v), at(0, 1), at(100, 3), NONE);
        int[][] ears = {{9, 1}, {10, 2}, {19, 2}, {20, 3}, {29, 3}, {30, 4}};
        for (int[] e : ears) {
            let(27, "with an ear of " + e[0], BoundsTest::furnish, x -> x.odd(0, 0, 0, 1, 4, e[0]), e[1]);
        }
        for (int step : new int[] {1 << 30, 1 << 31, 715827883, 1431655766}) {
            refused(27, "step " + step + " that wraps", BoundsTest::furnish, x -> x.odd(0, 0, 0, step, 6, 0), NONE);
        }
    }

    private static void ears() {
        range(28, "law", (x, v) -> x.ear(v, 0, 0, 1, 1, 0, 1), at(0, 10), at(2, 1), NONE);
        range(28, "ball", (x, v) -> x.ear(0, v, 0, 1, 1, 0, 1), at(0, 10), at(1, 10), NONE);
        range(28, "beam", (x, v) -> x.ear(0, 0, v, 1, 1, 0, 1), at(0, 10), at(1, 16), NONE);
        range(28, "step", (x, v) -> x.ear(2, 0, 1, v, 1, 0, 0), at(1, 1), at(1000, 1000), NONE);
        range(28, "step of string 7", (x, v) -> x.ear(2, 0, 1, v, 7, 0, 0), at(1, 7), at(142, 994), NONE);
        range(28, "i", (x, v) -> x.ear(2, 0, 1, 1, v, 0, 0), at(1, 1), at(1000, 1000), NONE);
        range(28, "i by steps of 300", (x, v) -> x.ear(2, 0, 1, 300, v, 100, 1), at(1, 400), at(3, 1000), NONE);
        range(28, "i with 100", (x, v) -> x.ear(2, 0, 1, 1, v, 100, 0), at(1, 1), at(900, 800), NONE);
        range(28, "e", (x, v) -> x.ear(2, 0, 1, 1, 200, v, 0), at(0, 200), at(100, 100), NONE);
        range(28, "e at 950", (x, v) -> x.ear(2, 0, 1, 1, 950, v, 1), at(0, 950), at(50, 1000), NONE);
        range(28, "e at 1,000", (x, v) -> x.ear(2, 0, 1, 1000, 1, v, 1), at(0, 1000), at(0, 1000), NONE);
        range(28, "what", (x, v) -> x.ear(0, 0, 0, 2, 1, 0, v), at(0, 11), at(1, 30), NONE);
        int[][] wraps = {{1 << 16, 1 << 16}, {65537, -65535}, {4, (1 << 30) + 1}, {-1, -1}, {-2, -2}};
        for (int[] w : wraps) {
            refused(28, "step and i that wrap", BoundsTest::furnish, x -> x.ear(0, 0, 0, w[0], w[1], 0, 0), NONE);
        }
        refused(28, "steps of 0", BoundsTest::furnish, x -> x.ear(0, 0, 0, 0, 1, 5, 0), NONE);
        refused(28, "string 0", BoundsTest::furnish, x -> x.ear(0, 0, 0, 1, 0, 5, 0), NONE);
        let(28, "the last place, in its tick", BoundsTest::furnish, x -> x.ear(0, 0, 0, 4, 1, 0, 1), 100);
        refused(28, "no place is left behind it", BoundsTest::furnish, x -> x.ear(0, 0, 0, 5, 1, 0, 1), NONE);
        let(28, "but with an ear", BoundsTest::furnish, x -> x.ear(0, 0, 0, 5, 1, 1, 0), 61);
        refused(28, "it never moves", BoundsTest::furnish, x -> x.ear(1, 0, 0, 500, 1, 100, 0), NONE);
        let(28, "no further than the length", with(x -> x.beam(99, 12, 2)), x -> x.ear(0, 0, 2, 4, 1, 0, 1), 99);
        let(28, "the first place, by ticks before 1", BoundsTest::furnish, x -> x.ear(0, 0, 0, 1, 1, 100, 0), 1);
    }

    private static void sheets() {
        let(29, "the tenth sheet", times(6, x -> x.sheet()), x -> x.sheet(), 9);
        refused(29, "an eleventh sheet", times(7, x -> x.sheet()), x -> x.sheet(), NONE);
        range(30, "sheet", (x, v) -> x.number(v, 5), at(0, 4), at(2, 2), NONE);
        range(30, "number", (x, v) -> x.number(0, v), at(0, 4), at(1000000, 4), NONE);
        range(30, "sheet of ten", times(7, x -> x.sheet()), (x, v) -> x.number(v, 5), at(0, 4), at(9, 1), NONE);
        let(30, "the twelfth number", times(8, x -> x.number(0, 5)), x -> x.number(0, 5), 12);
        refused(30, "a thirteenth number", times(9, x -> x.number(0, 5)), x -> x.number(0, 5), NONE);
        let(30, "another sheet has room", times(9, x -> x.number(0, 5)), x -> x.number(1, 5), 1);
        let(30, "all numbers", with(x -> {
            for (int i = 0; i < 7; i++) {
                x.sheet();
            }
            for (int i = 0; i < 120; i++) {
                x.number(i / 12, 5);
            }
        }), x -> x.number(9, 5) + x.count(7), 8 * 12 + 12 + 11);
    }

    private static void found() {
        range(31, "sheet", (x, v) -> x.found(v, 0, 0, 0, 1, NONE), at(0, 1), at(2, 8), NONE);
        range(31, "guess", (x, v) -> x.found(0, v, 0, 0, 1, NONE), at(0, 1), at(1, 0), NONE);
        range(31, "ball", (x, v) -> x.found(0, 0, v, 0, 1, NONE), at(0, 1), at(1, 1), NONE);
        range(31, "beam", (x, v) -> x.found(0, 0, 0, v, 1, NONE), at(0, 1), at(1, 1), NONE);
        range(31, "step", (x, v) -> x.found(0, 0, 0, 0, v, NONE), at(1, 1), at(80, 0), NONE);
        range(31, "i", (x, v) -> x.found(0, 0, 0, 0, 1, v), at(NONE, 1), at(0, 620), NONE);
        range(31, "i of eight", (x, v) -> x.found(2, 0, 0, 0, 1, v), at(NONE, 8), at(7, 7 * 31), NONE);
        range(32, "sheet", (x, v) -> x.most(v, 0, 0, 0, 1, 0), at(0, 620), at(2, 7), NONE);
        range(32, "guess", (x, v) -> x.most(0, v, 0, 0, 1, 2), at(0, 0), at(1, 60), NONE);
        range(32, "ball", (x, v) -> x.most(0, 0, v, 0, 1, 0), at(0, 620), at(1, 620), NONE);
        range(32, "beam", (x, v) -> x.most(0, 0, 0, v, 1, 0), at(0, 620), at(1, 620), NONE);
        range(32, "step", (x, v) -> x.most(0, 0, 0, 0, v, 0), at(1, 620), at(80, 20), NONE);
        range(32, "what", (x, v) -> x.most(0, 0, 0, 0, 1, v), at(0, 620), at(2, 0), NONE);
        range(33, "sheet", (x, v) -> x.well(v, 0, 0, 0, 1, 9, 1), at(0, 6859), at(2, 19), NONE);
        range(33, "guess", (x, v) -> x.well(0, v, 0, 0, 1, 1, 0), at(0, 1), at(1, 27), NONE);
        range(33, "ball", (x, v) -> x.well(0, 0, v, 0, 1, 1, 0), at(0, 1), at(1, 1), NONE);
        range(33, "beam", (x, v) -> x.well(0, 0, 0, v, 1, 1, 0), at(0, 1), at(1, 1), NONE);
        range(33, "step", (x, v) -> x.well(0, 0, 0, 0, v, 1, 1), at(1, 27), at(80, 27), NONE);
        range(33, "e", (x, v) -> x.well(0, 0, 0, 0, 1, v, 1), at(0, 1), at(9, 6859), NONE);
        range(33, "what", (x, v) -> x.well(0, 0, 0, 0, 1, 1, v), at(0, 1), at(1, 27), NONE);
        for (int v : new int[] {NONE, 0}) {
            refused(31, "an empty sheet", BoundsTest::furnish, x -> x.found(1, 0, 0, 0, 1, v), NONE);
        }
        for (int what = 0; what < 3; what++) {
            int of = what;
            refused(32, "an empty sheet", BoundsTest::furnish, x -> x.most(1, 0, 0, 0, 1, of), NONE);
            refused(33, "an empty sheet", BoundsTest::furnish, x -> x.well(1, 0, 0, 0, 1, 1, of), NONE);
        }
        let(31, "0 and 0 are found", with(x -> x.number(1, 0)), x -> x.found(1, 0, 0, 0, 1, 0), 0);
        let(31, "30 and 30 are found", with(x -> x.number(1, 60)), x -> x.found(1, 0, 0, 0, 1, 0), 960);
        let(32, "30 and 30 work", with(x -> x.number(1, 60)), x -> x.most(1, 0, 0, 0, 1, 0), 960);
        let(32, "0 and 1 work", with(x -> x.number(1, 1)), x -> x.most(1, 0, 0, 0, 1, 0), 1);
        fullSheet();
        rows();
    }

    private static void fullSheet() {
        Twins.Scene full = with(x -> {
            int sheet = x.sheet();
            for (int i = 1; i <= 12; i++) {
                x.number(sheet, 80 * i);
            }
            Texts.guess(x, "y:t>879&t<881?0;y:t");
            Texts.guess(x, "y:0");
            Texts.guess(x, "y:t=80?0-9999*9999");
        });
        let(31, "twelve numbers by steps of 80", full, x -> x.found(3, 0, 0, 0, 80, NONE), 1);
        let(31, "as 1 and 0", full, x -> x.found(3, 0, 0, 0, 80, 0), 31);
        let(31, "twelve by any pair but one number", full, x -> x.found(3, 2, 0, 0, 80, NONE), 0);
        let(32, "all twelve worked", full, x -> x.most(3, 0, 0, 0, 80, 1), 4095);
        let(32, "all but the eleventh", full, x -> x.most(3, 2, 0, 0, 80, 1), 4095 - 1024);
        let(32, "off by the eleventh", full, x -> x.most(3, 2, 0, 0, 80, 2), 880);
        let(32, "of several the first", full, x -> x.most(3, 2, 0, 0, 80, 0), 0);
        let(32, "none worked", full, x -> x.most(3, 3, 0, 0, 80, 1), 0);
        let(32, "none worked: the first pair", full, x -> x.most(3, 3, 0, 0, 80, 0), 0);
        let(32, "off by all", full, x -> x.most(3, 3, 0, 0, 80, 2), 80 * 78);
        let(32, "far below and missing", full, x -> x.most(3, 4, 0, 0, 80, 2), 1000000 + 80 * 78);
    }

    /** Of two numbers by "y:0" the sum off is told by the numbers themselves. */
    private static void rows() {
        int[][] all = {{0, 0, 1}, {0, 1, 5}, {1, 1, 13}, {1, 2, 21}, {2, 2, 25}, {2, 3, 25}, {1000000, 1000000, 25}};
        for (int[] r : all) {
            Twins.Scene scene = with(x -> {
                Texts.guess(x, "y:0");
                x.sheet();
                // The first pair is taken however many numbers work by "y:0", since all pairs are alike.
                x.number(3, r[0]);
                x.number(3, r[1]);
            });
            let(33, "rows up to " + r[0] + " and " + r[1], scene, x -> x.well(3, 2, 0, 0, 1, 2, 0), r[2]);
            let(33, "of 25", scene, x -> x.well(3, 2, 0, 0, 1, 2, 1), 25);
            let(33, "one row without errors", scene, x -> x.well(3, 2, 0, 0, 1, 0, 0), 1);
        }
        Twins.Scene full = with(x -> {
            Texts.guess(x, "y:0");
            x.sheet();
            for (int i = 0; i < 12; i++) {
                x.number(3, i == 0 ? 107 : 0);
            }
        });
        long rows = 2213314919066161L;
        let(33, "19 to the twelfth", full, x -> x.well(3, 2, 0, 0, 1, 9, 1), rows);
        let(33, "all but those of nines alone", full, x -> x.well(3, 2, 0, 0, 1, 9, 0), rows - 4096);
    }

    /** Throws by law 0 are 120 far: the least and the greatest roll by what is written, with a slack. */
    private static void rolled(int written, int slack, int least, int greatest) {
        Twins.Scene scene = with(x -> {
            x.write(2, NONE);
            x.trial(2, 0, 0, 60, 0, 1, slack);
            x.write(4, written);
        });
        String what = "written " + written + " with a slack of " + slack;
        let(34, what + ": least", scene, x -> x.rolls(0, 0), least);
        let(34, what + ": greatest", scene, x -> x.rolls(0, 1), greatest);
    }

    private static void rolls() {
        range(34, "law", (x, v) -> x.rolls(v, 1), at(0, 733), at(2, NONE), NONE);
        range(34, "what", (x, v) -> x.rolls(0, v), at(0, 692), at(1, 733), NONE);
        rolled(120, 0, 1000, 1000);
        rolled(121, 0, NONE, NONE);
        rolled(121, 1, 1000, 1000);
        rolled(170, 50, 1000, 1000);
        rolled(171, 50, NONE, NONE);
        rolled(1000000, 50, NONE, NONE);
        rolled(0, 0, 0, 8);
        rolled(0, 1, 0, 16);
        rolled(1, 0, 9, 16);
        rolled(60, 50, 84, 924);
        let(34, "the first trial counts", x -> {
            x.ball(1, 1);
            x.beam(100, 10, 0);
            Texts.law(x, "g:10");
            x.trial(2, 0, 0, 60, 0, 1, 0);
            x.write(0, 120);
        }, x -> x.rolls(0, 0), 1000);
        let(34, "without far nothing binds", BoundsTest::furnish, x -> x.rolls(1, 1) - x.rolls(1, 0), 1000);
        let(34, "nothing thrown is written", with(x -> x.write(2, NONE)), x -> x.rolls(0, 1) - x.rolls(0, 0), 1000);
    }

    private static void towers() {
        range(35, "law", (x, v) -> x.tower(v, 0, 1, 60, 0, 1), at(0, 1), at(2, 1), NONE);
        range(35, "one", (x, v) -> x.tower(0, v, 1, 60, 0, 1), at(0, 1), at(1, 1), NONE);
        range(35, "the other", (x, v) -> x.tower(0, 0, v, 60, 1, 0), at(0, 2), at(1, 2), NONE);
        range(35, "height", (x, v) -> x.tower(0, 0, 1, v, 0, 0), at(1, 0), at(12000, 0), NONE);
        range(35, "late", (x, v) -> x.tower(0, 0, 1, 60, v, 0), at(0, 0), at(1000, 2), NONE);
        range(35, "later", (x, v) -> x.tower(0, 0, 1, 60, 0, v), at(0, 0), at(1000, 1), NONE);
        let(35, "both as late as may be", BoundsTest::furnish, x -> x.tower(2, 0, 1, 1000, 1000, 1000), 0);
        refused(35, "they never come down", BoundsTest::furnish, x -> x.tower(1, 0, 1, 60, 0, 0), NONE);
        refused(35, "they come down too late", BoundsTest::furnish, x -> x.tower(2, 0, 1, 1001, 0, 0), NONE);
        Twins.Scene unlike = with(x -> Texts.law(x, "d:w>7?5;d:0"));
        refused(35, "the first never comes down", unlike, x -> x.tower(3, 0, 1, 60, 0, 0), NONE);
        refused(35, "the second never comes down", unlike, x -> x.tower(3, 1, 0, 60, 0, 0), NONE);
        range(36, "law", (x, v) -> x.hands(v, 0, 1, 60, 3, 1), at(0, 3), at(2, 3), NONE);
        range(36, "one", (x, v) -> x.hands(0, v, 1, 60, 3, 1), at(0, 3), at(1, 3), NONE);
        range(36, "the other", (x, v) -> x.hands(0, 0, v, 60, 3, 1), at(0, 3), at(1, 3), NONE);
        range(36, "height", (x, v) -> x.hands(0, 0, 1, v, 3, 0), at(1, 3), at(12000, 3), NONE);
        range(36, "m", (x, v) -> x.hands(0, 0, 1, 60, v, 0), at(1, 1), at(50, 50), NONE);
        range(36, "what", (x, v) -> x.hands(0, 0, 1, 60, 4, v), at(0, 4), at(2, 6), NONE);
        refused(36, "they never come down", BoundsTest::furnish, x -> x.hands(1, 0, 1, 60, 3, 0), NONE);
        refused(36, "they come down too late", BoundsTest::furnish, x -> x.hands(2, 0, 1, 1001, 3, 0), NONE);
        refused(36, "the first never comes down", unlike, x -> x.hands(3, 0, 1, 60, 3, 0), NONE);
        refused(36, "the second never comes down", unlike, x -> x.hands(3, 1, 0, 60, 3, 0), NONE);
        let(36, "the first has just time enough", with(x -> Texts.law(x, "d:t=0&w>7?11;d:t=0?1;d:0")),
                x -> x.hands(3, 0, 1, 54, 50, 1), 0);
        let(36, "and one tick more", with(x -> Texts.law(x, "d:t=0&w>7?11;d:t=0?1;d:0")),
                x -> x.hands(3, 0, 1, 53, 50, 1), 1);
    }

    private static void drawn() {
        range(37, "law", (x, v) -> x.drawn(v, 0, 0, 1, 3, 0), at(0, 456), at(2, 3), HIDDEN);
        range(37, "ball", (x, v) -> x.drawn(0, v, 0, 1, 3, 0), at(0, 456), at(1, 456), HIDDEN);
        Twins.Scene flat = with(x -> x.beam(10, 12, 2));
        Twins.Scene steeper = with(x -> x.beam(10, 20, 4));
        range(37, "one", flat, (x, v) -> x.drawn(0, 0, v, 1, 3, 0), at(0, 456), at(2, 456), HIDDEN);
        range(37, "the other", steeper, (x, v) -> x.drawn(0, 0, 0, v, 3, 0), at(1, 456), at(2, 456), HIDDEN);
        range(37, "ticks", (x, v) -> x.drawn(0, 0, 0, 1, v, 0), at(0, 0), at(1000, 25630000), HIDDEN);
        range(37, "what", (x, v) -> x.drawn(0, 0, 0, 1, 3, v), at(0, 456), at(1, 396), HIDDEN);
        refused(37, "one beam twice", BoundsTest::furnish, x -> x.drawn(0, 0, 1, 1, 3, 0), HIDDEN);
        refused(37, "two beams of alike slopes", with(x -> x.beam(50, 12, 9)), x -> x.drawn(0, 0, 0, 2, 3, 0), HIDDEN);
        let(37, "slopes one apart", with(x -> x.beam(50, 13, 2)), x -> x.drawn(0, 0, 0, 2, 3, 0), 60 + 6 * 88);
        let(37, "slopes one apart, the steeper first", with(x -> x.beam(50, 11, 2)),
                x -> x.drawn(0, 0, 0, 2, 3, 0), 60 + 6 * 88);
        let(37, "it is slope 100 already", with(x -> x.beam(50, 100, 2)), x -> x.drawn(0, 0, 2, 0, 3, 0), 6 * 98);
        Twins.Scene steep = with(x -> {
            x.beam(50, 1, 0);
            x.beam(50, 2, 0);
            Texts.law(x, "g:s=1?0;g:9999*9999");
            Texts.law(x, "g:s=2?0;g:9999*9999;d:9999*9999");
            Texts.law(x, "g:s=1?3;g:s=12?10;g:0");
        });
        let(37, "as much as may be", steep, x -> x.drawn(3, 0, 2, 3, 1000, 0), 990000000);
        let(37, "as little as may be", steep, x -> x.drawn(4, 0, 2, 3, 1000, 0), -980000000);
        let(37, "less falling", steep, x -> x.drawn(4, 0, 2, 3, 1000, 1), -990000000);
        let(37, "cut towards 0", steep, x -> x.drawn(5, 0, 0, 1, 1, 0), 10 - 110);
        let(37, "cut towards 0", steep, x -> x.drawn(5, 0, 2, 0, 1, 0), 3 + 63);
        let(37, "cut towards 0 from below", steep, x -> x.drawn(5, 0, 2, 1, 1, 0), 3 - 15);
    }

    /**
     * As many of all as there may be: ball i weighs i and 1, beam i has slope 10 and i and length 100 and i, law i adds
     * i times the slope to the weight, sheet i holds the number i, and trial 0 leaves guess 7 alone.
     */
    private static void fill(GrooveHouse x) {
        for (int i = 0; i < 8; i++) {
            x.ball(1, i + 1);
            Texts.law(x, "g:w+s*" + i + ";d:w+" + i + ";q:1+" + i);
            Texts.guess(x, i == 7 ? "y:a*t+b+w*100+s" : "y:a*t+b+" + i);
        }
        for (int i = 0; i < 6; i++) {
            x.beam(100 + i, 10 + i, 0);
        }
        for (int i = 0; i < 30; i++) {
            x.trial(i % 3, i % 8, i % 6, 100, 5, 1, 50);
        }
        for (int i = 0; i < 10; i++) {
            x.number(x.sheet(), i);
        }
    }

    private static void index(int promise, String what, Edge edge, int[] first, int[] last, long refusal) {
        range(promise, what + " of as many as may be", BoundsTest::fill, edge, first, last, refusal);
    }

    private static void fullOfLawsAndBalls() {
        index(9, "law", (x, v) -> bool(x.roll(v, 5)), at(0, YES), at(7, YES), NO);
        index(10, "law", (x, v) -> x.way(v, 7, 5, 1), at(0, 8), at(7, 113), NONE);
        index(10, "ball", (x, v) -> x.way(7, v, 5, 1), at(0, 106), at(7, 113), NONE);
        index(10, "beam", (x, v) -> x.way(7, 7, v, 1), at(0, 78), at(5, 113), NONE);
        index(11, "law", (x, v) -> x.speed(v, 7, 5, 2), at(0, 16), at(7, 226), NONE);
        index(11, "ball", (x, v) -> x.speed(7, v, 5, 2), at(0, 212), at(7, 226), NONE);
        index(11, "beam", (x, v) -> x.speed(7, 7, v, 2), at(0, 156), at(5, 226), NONE);
        index(12, "law", (x, v) -> x.click(v, 7, 5, 100), at(0, 5), at(7, 1), NONE);
        index(12, "ball", (x, v) -> x.click(0, v, 5, 100), at(0, 14), at(7, 5), NONE);
        index(12, "beam", (x, v) -> x.click(7, 7, v, 100), at(0, 2), at(5, 1), NONE);
        index(13, "law", (x, v) -> x.fall(v, 7, 100), at(0, 5), at(7, 4), NONE);
        index(13, "ball", (x, v) -> x.fall(0, v, 100), at(0, 14), at(7, 5), NONE);
        index(14, "law", (x, v) -> x.cup(v, 100, 3), at(0, 3), at(7, 24), NONE);
        index(16, "trial", (x, v) -> x.told(v, 0), at(0, 0), at(29, 2), Twins.THROWS);
        index(17, "law", (x, v) -> x.is(v, 0), at(0, 14), at(7, 2), NONE);
        index(17, "trial", (x, v) -> x.is(0, v), at(0, 14), at(29, 216), NONE);
        index(18, "trial", (x, v) -> bool(x.write(v, 5)), at(0, YES), at(29, YES), NO);
        index(27, "law", (x, v) -> x.odd(v, 0, 0, 1, 2, 1), at(0, 2), at(7, 1), NONE);
        index(27, "ball", (x, v) -> x.odd(0, v, 0, 1, 2, 1), at(0, 2), at(7, 1), NONE);
        index(27, "beam", (x, v) -> x.odd(7, 0, v, 1, 2, 71), at(0, 2), at(5, 1), NONE);
        index(28, "law", (x, v) -> x.ear(v, 0, 0, 1, 1, 0, 1), at(0, 1), at(7, 71), NONE);
        index(28, "ball", (x, v) -> x.ear(0, v, 0, 1, 1, 0, 1), at(0, 1), at(7, 8), NONE);
        index(28, "beam", (x, v) -> x.ear(7, 0, v, 1, 1, 0, 1), at(0, 71), at(5, 105), NONE);
        index(34, "law", (x, v) -> x.rolls(v, 1), at(0, 1000), at(7, 1000), NONE);
        index(35, "law", (x, v) -> x.tower(v, 0, 7, 100, 0, 0), at(0, 2), at(7, 2), NONE);
        index(35, "one", (x, v) -> x.tower(0, v, 7, 100, 0, 0), at(0, 2), at(7, 0), NONE);
        index(35, "the other", (x, v) -> x.tower(0, 7, v, 100, 0, 0), at(0, 1), at(7, 0), NONE);
        index(36, "law", (x, v) -> x.hands(v, 0, 7, 100, 1, 2), at(0, 1), at(7, 1), NONE);
        index(36, "one", (x, v) -> x.hands(0, v, 7, 100, 1, 0), at(0, 0), at(7, 1), NONE);
        index(36, "the other", (x, v) -> x.hands(0, 7, v, 100, 1, 0), at(0, 0), at(7, 1), NONE);
        index(37, "law", (x, v) -> x.drawn(v, 7, 0, 5, 1, 0), at(0, 8), at(7, 708), HIDDEN);
        index(37, "ball", (x, v) -> x.drawn(7, v, 0, 5, 1, 0), at(0, 701), at(7, 708), HIDDEN);
        index(37, "one", (x, v) -> x.drawn(7, 0, v, 4, 1, 0), at(0, 701), at(5, 701), HIDDEN);
        index(37, "the other", (x, v) -> x.drawn(7, 0, 4, v, 1, 0), at(0, 701), at(5, 701), HIDDEN);
    }

    private static void fullOfGuessesAndSheets() {
        index(19, "guess", (x, v) -> x.value(v, 0, 0, 0, 0, 0), at(0, 0), at(7, 110), HIDDEN);
        index(19, "ball", (x, v) -> x.value(7, 0, 0, v, 0, 0), at(0, 110), at(7, 810), HIDDEN);
        index(19, "beam", (x, v) -> x.value(7, 0, 0, 0, v, 0), at(0, 110), at(5, 115), HIDDEN);
        index(20, "guess", (x, v) -> x.fits(v, NONE), at(0, 961), at(7, 961), NONE);
        index(21, "guess", (x, v) -> x.span(v, 1), at(0, 30), at(7, 30), NONE);
        index(23, "one", (x, v) -> x.parts(v, 0, 0, 0, 1, 1), at(0, 0), at(7, 110), NONE);
        index(23, "the other", (x, v) -> x.parts(0, v, 0, 0, 1, 1), at(0, 0), at(7, 110), NONE);
        index(23, "ball", (x, v) -> x.parts(0, 7, v, 0, 1, 1), at(0, 110), at(7, 810), NONE);
        index(23, "beam", (x, v) -> x.parts(0, 7, 0, v, 1, 1), at(0, 110), at(5, 115), NONE);
        index(24, "guess", (x, v) -> x.worlds(v, 0, 0), at(0, 0), at(7, 0), NONE);
        index(25, "guess", (x, v) -> bool(x.pin(v, 1, 1)), at(0, YES), at(7, YES), NO);
        index(26, "law", (x, v) -> x.cheapest(v, 2), at(0, 7), at(7, 7), NONE);
        index(30, "sheet", (x, v) -> x.number(v, 5), at(0, 2), at(9, 2), NONE);
        index(31, "sheet", (x, v) -> x.found(v, 0, 0, 0, 1, NONE), at(0, 1), at(9, 10), NONE);
        index(31, "guess", (x, v) -> x.found(9, v, 0, 0, 1, NONE), at(0, 10), at(7, 0), NONE);
        index(31, "ball", (x, v) -> x.found(9, 0, v, 0, 1, NONE), at(0, 10), at(7, 10), NONE);
        index(31, "beam", (x, v) -> x.found(9, 0, 0, v, 1, NONE), at(0, 10), at(5, 10), NONE);
        index(32, "sheet", (x, v) -> x.most(v, 0, 0, 0, 1, 0), at(0, 0), at(9, 9), NONE);
        index(32, "guess", (x, v) -> x.most(9, v, 0, 0, 1, 2), at(0, 0), at(7, 101), NONE);
        index(32, "ball", (x, v) -> x.most(9, 7, v, 0, 1, 2), at(0, 101), at(7, 801), NONE);
        index(32, "beam", (x, v) -> x.most(9, 7, 0, v, 1, 2), at(0, 101), at(5, 106), NONE);
        index(33, "sheet", (x, v) -> x.well(v, 7, 0, 0, 1, 9, 0), at(0, 19), at(9, 19), NONE);
        index(33, "guess", (x, v) -> x.well(9, v, 0, 0, 1, 9, 0), at(0, 1), at(7, 19), NONE);
        index(33, "ball", (x, v) -> x.well(9, 7, v, 0, 1, 9, 1), at(0, 19), at(7, 19), NONE);
        index(33, "beam", (x, v) -> x.well(9, 7, 0, v, 1, 9, 1), at(0, 19), at(5, 19), NONE);
        Twins.Call[] more = {
            x -> x.ball(1, 1), x -> x.beam(10, 1, 1), x -> Texts.law(x, "g:1") + x.fault(0), x -> x.sheet(),
            x -> x.trial(0, 0, 0, 1, 0, 1, 0),
        };
        int[] none = {NONE, NONE, NONE + NONE, NONE, NONE};
        for (int i = 0; i < more.length; i++) {
            let(38, "one more of what there are as many as may be", BoundsTest::fill, more[i], none[i]);
        }
        int[] counts = {8, 6, 8, 8, 30, 0, 10, 10, 0};
        for (int what = 0; what <= 8; what++) {
            int of = what;
            let(38, "count(" + what + ") of a full house", BoundsTest::fill, x -> x.count(of), counts[what]);
        }
        let(22, "all are left", BoundsTest::fill, x -> x.left(), 255);
    }

    private static void counts() {
        range(38, "what", (x, v) -> x.count(v), at(0, 2), at(8, 5), NONE);
        int[] rich = {2, 2, 3, 2, 4, 2, 3, 4, 5};
        for (int what = 0; what <= 8; what++) {
            int of = what;
            let(38, "count(" + what + ")", BoundsTest::furnish, x -> x.count(of), rich[what]);
        }
    }

    public static void main(String[] args) {
        nothingIsTold();
        balls();
        beams();
        tapes();
        texts();
        lawsAndGuesses();
        worths();
        runs();
        clicks();
        cups();
        trials();
        truths();
        writings();
        values();
        fits();
        parts();
        worlds();
        cheapest();
        odds();
        ears();
        sheets();
        found();
        rolls();
        towers();
        drawn();
        fullOfLawsAndBalls();
        fullOfGuessesAndSheets();
        counts();
        System.out.println(wrong == 0 ? "all " + checks + " bounds hold" : wrong + " of " + checks + " do not hold");
        if (wrong != 0) {
            System.exit(1);
        }
    }
}
